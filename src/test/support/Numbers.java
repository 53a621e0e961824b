/** The document's call numbers and errors, and values just outside and far outside of what it allows. */
interface Numbers {
    int LEAST = Integer.MIN_VALUE;
    int MOST = Integer.MAX_VALUE;

    int PID = 0;
    int TICKS = 1;
    int OPEN = 2;
    int CLOSE = 3;
    int READ = 4;
    int WRITE = 5;
    int SEEK = 6;
    int DUP = 7;
    int UNLINK = 8;
    int LINK = 9;
    int STAT = 10;
    int PIPE = 11;
    int LIST = 12;
    int COPY = 13;
    int PROTECT = 14;
    int READV = 15;
    int WRITEV = 16;
    int RENAME = 17;

    int NOENT = -2;
    int BADF = -9;
    int AGAIN = -11;
    int FAULT = -14;
    int EXIST = -17;
    int INVAL = -22;
    int NFILE = -23;
    int MFILE = -24;
    int NOSPC = -28;
    int SPIPE = -29;
    int BROKEN_PIPE = -32;
    int NOSYS = -38;

    /** What is just outside of 0 .. last, on both sides, and what is as far outside as can be. */
    static int[] outside(int last) {
        return new int[] {LEAST, LEAST + last, -1, last + 1, MOST};
    }
}
