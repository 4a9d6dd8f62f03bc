import java.util.Arrays;

/**
 * The two codes by the document's own words, with tables that are filled by trying every error:
 * built on nothing of the class that is tested.
 */
final class Codes {
    private static final long[] UP_ERRORS = upErrors();
    private static final int[] DOWN_CHECKS = downChecks();
    private static final long[] DOWN_ERRORS = downErrors();

    private Codes() {
    }

    static long encode(boolean up, long info) {
        return up ? info << 7 | upRest(info << 7) ^ 127 : info << 16 | DOWN_CHECKS[downValues(info << 16)];
    }

    /** -1 for a spoilt block. */
    static long decode(boolean up, long block) {
        long errors = up ? UP_ERRORS[upRest(block ^ 127)] : DOWN_ERRORS[downValues(block)];
        return errors < 0 ? -1 : (block ^ errors) >>> (up ? 7 : 16);
    }

    static boolean isBlock(boolean up, long block) {
        return up ? upRest(block ^ 127) == 0 : downValues(block) == 0;
    }

    /** What is left of a polynomial over 0 and 1 when it is divided by x^7 + x^6 + x^2 + 1. */
    private static int upRest(long polynomial) {
        long rest = polynomial;
        for (int k = 62; k >= 7; k--) {
            if ((rest >>> k & 1) == 1) {
                rest ^= 0b11000101L << (k - 7);
            }
        }
        return (int) rest;
    }

    private static int product(int s, int r) {
        int product = 0;
        for (int j = 0; j < 4; j++) {
            if ((r >>> j & 1) == 1) {
                product ^= s << j;
            }
        }
        for (int j = 6; j >= 4; j--) {
            if ((product >>> j & 1) == 1) {
                product ^= 0b10011 << (j - 4);
            }
        }
        return product;
    }

    /** The values of a down block at a, a^2, a^3 and a^4, four bits each. */
    private static int downValues(long block) {
        int values = 0;
        int point = 1;
        for (int j = 0; j < 4; j++) {
            point = product(point, 2);
            int value = 0;
            for (int k = 14; k >= 0; k--) {
                value = product(value, point) ^ (int) (block >>> 4 * k & 15);
            }
            values |= value << 4 * j;
        }
        return values;
    }

    private static long[] upErrors() {
        long[] errors = new long[128];
        Arrays.fill(errors, -1);
        errors[0] = 0;
        for (int k = 0; k < 63; k++) {
            errors[upRest(1L << k)] = 1L << k;
        }
        return errors;
    }

    private static int[] downChecks() {
        int[] checks = new int[65536];
        for (int check = 0; check < 65536; check++) {
            checks[downValues(check)] = check;
        }
        return checks;
    }

    private static long[] downErrors() {
        long[] errors = new long[65536];
        Arrays.fill(errors, -1);
        for (int i = 0; i < 15; i++) {
            for (int j = i + 1; j < 15; j++) {
                for (long both = 0; both < 256; both++) {
                    long error = (both & 15) << 4 * i | (both >>> 4) << 4 * j;
                    errors[downValues(error)] = error;
                }
            }
        }
        return errors;
    }
}
