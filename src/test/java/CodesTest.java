import java.util.Random;

/**
 * Promises 19 and 20 and what "Terms" says of the blocks: every error that the codes mend and many
 * that they don't, and the boundary cases, each sentence by a test of its own.
 */
public final class CodesTest {
    private static final int MOST_CALLS = 512;
    private static final Random RANDOM = new Random(19);
    private static FarLink link = new FarLink(1);
    private static int calls = 0;

    /** An object is used for at most 512 calls. */
    private static FarLink link() {
        if (calls == MOST_CALLS) {
            link = new FarLink(1);
            calls = 0;
        }
        calls++;
        return link;
    }

    private static long encode(boolean up, long info) {
        return link().encode(up, info);
    }

    private static long decode(boolean up, long block) {
        return link().decode(up, block);
    }

    private static long infoBits(boolean up) {
        return (1L << (up ? 56 : 44)) - 1;
    }

    private static long randomInfo(boolean up) {
        return RANDOM.nextLong() & infoBits(up);
    }

    private static void encodesUp() {
        Check.sentence("a block whose 7 check bits are all inverted is divisible by x^7 + x^6 + x^2 + 1");
        for (int i = 0; i < 20000; i++) {
            long info = i == 0 ? 0 : i == 1 ? infoBits(true) : i < 58 ? 1L << (i - 2) : randomInfo(true);
            long block = encode(true, info);
            Check.due("the info times 128", block >>> 7, info);
            Check.due("divisible", Codes.isBlock(true, block), true);
        }
        // The 7 check bits of the info 0 are inverted zeros; x^7 leaves x^6 + x^2 + 1.
        Check.due("encode(true, 0)", encode(true, 0), 127);
        Check.due("encode(true, 1)", encode(true, 1), 128 | 0b0111010);
    }

    private static void encodesDown() {
        Check.sentence("The polynomial whose factor of x^k is symbol k is 0 at a, a^2, a^3 and a^4");
        for (int i = 0; i < 20000; i++) {
            long info = i == 0 ? 0 : i == 1 ? infoBits(false) : i < 46 ? 1L << (i - 2) : randomInfo(false);
            long block = encode(false, info);
            Check.due("the symbols 4 .. 14", block >>> 16, info);
            Check.due("zeros", Codes.isBlock(false, block), true);
        }
        Check.due("encode(false, 0)", encode(false, 0), 0);
        // The generator itself: its factors are 7, 8, 12, 13, 1.
        Check.due("encode(false, 1)", encode(false, 1), 0x1DC87);
    }

    private static void infoAbove() {
        Check.sentence("the lowest 56 or 44 bits of an info (are looked at)");
        for (int i = 0; i < 50; i++) {
            for (boolean up : new boolean[] {true, false}) {
                int bits = up ? 56 : 44;
                long info = i == 0 ? 0 : i == 1 ? infoBits(up) : randomInfo(up);
                long block = encode(up, info);
                for (int k = bits; k < 64; k++) {
                    Check.due("bit " + k + " is not", encode(up, info ^ 1L << k), block);
                }
                Check.due("none above is", encode(up, info | -1L << bits), block);
                Check.due("bit " + (bits - 1) + " is", encode(up, info ^ 1L << (bits - 1)) != block, true);
            }
        }
        Check.due("encode(true, -1)", encode(true, -1), encode(true, infoBits(true)));
        Check.due("encode(false, -1)", encode(false, -1), encode(false, infoBits(false)));
        Check.due("encode(true, the least long)", encode(true, Long.MIN_VALUE), encode(true, 0));
        Check.due("encode(false, the least long)", encode(false, Long.MIN_VALUE), 0);
    }

    private static void blockAbove() {
        Check.sentence("Of longs the lowest 63 bits (up) or 60 bits (down) of a block are looked at");
        for (int i = 0; i < 50; i++) {
            for (boolean up : new boolean[] {true, false}) {
                int bits = up ? 63 : 60;
                long info = i == 0 ? 0 : i == 1 ? infoBits(up) : randomInfo(up);
                long block = encode(up, info);
                for (int k = bits; k < 64; k++) {
                    Check.due("bit " + k + " is not", decode(up, block ^ 1L << k), info);
                }
                Check.due("none above is", decode(up, block | -1L << bits), info);
                long turned = block ^ 1L << (bits - 1);
                Check.due("the last bit is mended", decode(up, turned | -1L << bits), info);
                long spoilt = up ? turned ^ 1 : block ^ 0x112;
                Check.due("SPOILT stays SPOILT", decode(up, spoilt | -1L << bits), -1);
            }
        }
    }

    private static void oneBitUp() {
        Check.sentence("DECODING answers the info of the code block that differs in at most one bit");
        for (int i = 0; i < 50; i++) {
            long info = i == 0 ? 0 : i == 1 ? infoBits(true) : randomInfo(true);
            long block = encode(true, info);
            Check.due("no bit", decode(true, block), info);
            for (int k = 0; k < 63; k++) {
                Check.due("bit " + k, decode(true, block ^ 1L << k), info);
            }
        }
    }

    private static void twoBitsUp() {
        Check.sentence("if there is none, the block is SPOILT (up): -1 when it is SPOILT");
        for (int i = 0; i < 50; i++) {
            long info = i == 0 ? 0 : i == 1 ? infoBits(true) : randomInfo(true);
            long block = encode(true, info);
            for (int k = 0; k < 63; k++) {
                for (int j = 0; j < k; j++) {
                    Check.due("bits " + j + ", " + k, decode(true, block ^ 1L << k ^ 1L << j), -1);
                }
            }
        }
        Check.due("decode(true, 124)", decode(true, 124), -1);
        Check.due("decode(true, 0)", decode(true, 0), Codes.decode(true, 0));
        Check.due("decode(true, all bits)", decode(true, -1L), Codes.decode(true, -1L >>> 1));
    }

    private static void twoSymbolsDown() {
        Check.sentence("DECODING answers the info of the code block that differs in at most two symbols");
        for (int n = 0; n < 4; n++) {
            long info = n == 0 ? 0 : n == 1 ? infoBits(false) : randomInfo(false);
            long block = encode(false, info);
            Check.due("no symbol", decode(false, block), info);
            for (int i = 0; i < 15; i++) {
                for (int j = i + 1; j < 15; j++) {
                    for (long errors = 0; errors < 256; errors++) {
                        long turned = block ^ (errors & 15) << 4 * i ^ (errors >>> 4) << 4 * j;
                        Check.due("symbols " + i + ", " + j, decode(false, turned), info);
                    }
                }
            }
        }
    }

    private static void threeSymbolsDown() {
        Check.sentence("if there is none, the block is SPOILT (down): -1 when it is SPOILT");
        Check.due("decode(false, 0x112)", decode(false, 0x112), -1);
        Check.due("decode(false, all bits)", decode(false, -1L), Codes.decode(false, -1L >>> 4));
        for (int i = 0; i < 3000; i++) {
            long info = randomInfo(false);
            long block = encode(false, info);
            int[] places = RANDOM.ints(0, 15).distinct().limit(3).toArray();
            for (int place : places) {
                block ^= (long) (1 + RANDOM.nextInt(15)) << 4 * place;
            }
            long answer = decode(false, block);
            Check.due("three symbols of " + block, answer, Codes.decode(false, block));
            Check.due("never the info that it was", answer == info, false);
        }
    }

    private static void answersAsTryingEverything() {
        Check.sentence("(For both codes there is never more than one.)");
        for (int i = 0; i < 4000; i++) {
            long block = RANDOM.nextLong() >>> 1;
            Check.due("decode up " + block, decode(true, block), Codes.decode(true, block));
            block >>>= 3;
            Check.due("decode down " + block, decode(false, block), Codes.decode(false, block));
        }
    }

    public static void main(String[] args) {
        encodesUp();
        encodesDown();
        infoAbove();
        blockAbove();
        oneBitUp();
        twoBitsUp();
        twoSymbolsDown();
        threeSymbolsDown();
        answersAsTryingEverything();
        Check.end();
    }
}
