/** Infos by their fields, and the noise that turns one into another without a check that sees it. */
final class Infos {
    static final int METADATA = 1;
    static final int DATA = 2;
    static final int EOF = 3;
    static final int CANCEL = 4;
    static final int DONE = 5;

    static final int GOT = 1;
    static final int LACK = 2;
    static final int FINISHED = 3;

    static final int LOCKED = 16;
    static final int AGAIN = 32;

    /** In the place of an info: no block is sent. */
    static final long NONE = -1;

    private Infos() {
    }

    static long pdu(int kind, int t, int position, int word) {
        return (long) kind << 44 | (long) t << 40 | (long) position << 32 | word & 0xFFFFFFFFL;
    }

    static long frame(int type, int number, long pdu) {
        return (long) type << 52 | (long) number << 48 | pdu;
    }

    static long inOrder(int number, int kind, int t, int position, int word) {
        return frame(0, number, pdu(kind, t, position, word));
    }

    static long past(int kind, int t, int position, int word) {
        return frame(1, 0, pdu(kind, t, position, word));
    }

    static long unlock() {
        return frame(2, 0, 0);
    }

    static long set(int number) {
        return frame(3, number, 0);
    }

    static long down(int report, int kind, int t, int mask) {
        return (long) mask << 16 | (long) t << 12 | (long) kind << 8 | report;
    }

    /** A down block without a PDU. */
    static long report(int report) {
        return down(report, 0, 0, 0);
    }

    /** The difference of two code blocks turns a code block into a code block. */
    static void turn(FarLink x, boolean up, long from, long to) {
        x.noise(up, Codes.encode(up, from) ^ Codes.encode(up, to));
    }
}
