/**
 * The two codes by the document's own words and by trying everything out: slow, and built on
 * nothing of the class that is tested.
 */
final class Codes {
    private Codes() {
    }

    /** Whether a polynomial over 0 and 1 is divisible by x^7 + x^6 + x^2 + 1. */
    static boolean isUpBlock(long block) {
        long rest = block ^ 127;
        for (int k = 62; k >= 7; k--) {
            if ((rest >>> k & 1) == 1) {
                rest ^= 0b11000101L << (k - 7);
            }
        }
        return rest == 0;
    }

    static int product(int s, int r) {
        int product = 0;
        for (int j = 0; j < 4; j++) {
            if ((r >>> j & 1) == 1) {
                product ^= s << j;
            }
        }
        for (int j = 6; j >= 4; j--) {
            if ((product >>> j & 1) == 1) {
                product ^= 0b10011 << (j - 4);
            }
        }
        return product;
    }

    private static int valueAt(long block, int point) {
        int value = 0;
        for (int k = 14; k >= 0; k--) {
            value = product(value, point) ^ (int) (block >>> 4 * k & 15);
        }
        return value;
    }

    static boolean isDownBlock(long block) {
        int point = 1;
        for (int j = 1; j <= 4; j++) {
            point = product(point, 2);
            if (valueAt(block, point) != 0) {
                return false;
            }
        }
        return true;
    }

    static boolean isBlock(boolean up, long block) {
        return up ? isUpBlock(block) : isDownBlock(block);
    }

    static long infoOf(boolean up, long block) {
        return up ? block >>> 7 : block >>> 16;
    }

    /** The check bits are found by trying, with what the linear code leaves of the work. */
    static long encodeUp(long info) {
        for (long check = 0; check < 128; check++) {
            if (isUpBlock(info << 7 | check)) {
                return info << 7 | check;
            }
        }
        return -1;
    }

    static long encodeDown(long info) {
        int[] want = new int[4];
        for (int j = 0; j < 4; j++) {
            want[j] = valueAt(info << 16, power(j + 1));
        }
        for (int check = 0; check < 65536; check++) {
            boolean fits = true;
            for (int j = 0; j < 4 && fits; j++) {
                fits = valueAt(check, power(j + 1)) == want[j];
            }
            if (fits) {
                return info << 16 | check;
            }
        }
        return -1;
    }

    private static int power(int k) {
        int power = 1;
        for (int i = 0; i < k; i++) {
            power = product(power, 2);
        }
        return power;
    }

    static long decode(boolean up, long block) {
        if (isBlock(up, block)) {
            return infoOf(up, block);
        }
        return up ? decodeNearUp(block) : decodeNearDown(block);
    }

    private static long decodeNearUp(long block) {
        for (int k = 0; k < 63; k++) {
            if (isUpBlock(block ^ 1L << k)) {
                return (block ^ 1L << k) >>> 7;
            }
        }
        return -1;
    }

    private static long decodeNearDown(long block) {
        for (int i = 0; i < 15; i++) {
            for (int j = i + 1; j < 15; j++) {
                for (long errors = 0; errors < 256; errors++) {
                    long near = block ^ (errors & 15) << 4 * i ^ (errors >>> 4) << 4 * j;
                    if (isDownBlock(near)) {
                        return near >>> 16;
                    }
                }
            }
        }
        return -1;
    }
}
