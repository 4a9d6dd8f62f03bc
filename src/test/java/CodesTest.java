import java.util.Random;

/** Promises 19 and 20: both codes, with every error that they mend and many that they don't. */
public final class CodesTest {
    private static final FarLink LINK = new FarLink(1);
    private static final Random RANDOM = new Random(19);

    private static void encodesTheDocumentsBlocks() {
        for (int i = 0; i < 20000; i++) {
            long info = i == 0 ? 0 : i == 1 ? -1L : i < 66 ? 1L << (i - 2) : RANDOM.nextLong();
            long upBlock = LINK.encode(true, info);
            Check.due("encode up: info", upBlock >>> 7, info & (1L << 56) - 1);
            Check.due("encode up: divisible", Codes.isBlock(true, upBlock), true);
            long downBlock = LINK.encode(false, info);
            Check.due("encode down: info", downBlock >>> 16, info & (1L << 44) - 1);
            Check.due("encode down: zeros", Codes.isBlock(false, downBlock), true);
        }
    }

    private static void answersKnownBlocks() {
        // 7 check bits of the info 0 are all inverted zeros; x^7 leaves x^6 + x^2 + 1.
        Check.due("encode(true, 0)", LINK.encode(true, 0), 127);
        Check.due("encode(true, 1)", LINK.encode(true, 1), 128 | 0b0111010);
        Check.due("encode(false, 0)", LINK.encode(false, 0), 0);
        // The generator itself: its factors are 7, 8, 12, 13, 1.
        Check.due("encode(false, 1)", LINK.encode(false, 1), 0x1DC87);
        Check.due("decode(true, 127)", LINK.decode(true, 127), 0);
        Check.due("decode(true, 124)", LINK.decode(true, 124), -1);
        Check.due("decode(true, 126)", LINK.decode(true, 126), 0);
        Check.due("decode(false, 0x1DC87)", LINK.decode(false, 0x1DC87), 1);
        Check.due("decode(false, 0xFF)", LINK.decode(false, 0xFF), 0);
        Check.due("decode(false, 0x112)", LINK.decode(false, 0x112), -1);
    }

    private static void looksAtTheLowestBitsAlone() {
        for (int i = 0; i < 200; i++) {
            long info = RANDOM.nextLong() >>> 20;
            Check.due("info up, high bits", LINK.encode(true, info | 0xFFL << 56), LINK.encode(true, info));
            Check.due("info down, high bits",
                LINK.encode(false, info | 0xFFFFFL << 44), LINK.encode(false, info));
            Check.due("block up, bit 63", LINK.decode(true, LINK.encode(true, info) | 1L << 63), info);
            for (int k = 60; k < 64; k++) {
                Check.due("block down, high bit", LINK.decode(false, LINK.encode(false, info) | 1L << k), info);
            }
        }
    }

    private static void mendsOneBitUp() {
        for (int i = 0; i < 50; i++) {
            long info = i == 0 ? 0 : i == 1 ? (1L << 56) - 1 : RANDOM.nextLong() >>> 8;
            long block = LINK.encode(true, info);
            Check.due("decode up", LINK.decode(true, block), info);
            for (int k = 0; k < 63; k++) {
                Check.due("decode up, bit " + k, LINK.decode(true, block ^ 1L << k), info);
                for (int j = 0; j < k; j++) {
                    Check.due("decode up, two bits", LINK.decode(true, block ^ 1L << k ^ 1L << j), -1);
                }
            }
        }
    }

    private static void mendsTwoSymbolsDown() {
        for (int n = 0; n < 4; n++) {
            long info = n == 0 ? 0 : n == 1 ? (1L << 44) - 1 : RANDOM.nextLong() >>> 20;
            long block = LINK.encode(false, info);
            Check.due("decode down", LINK.decode(false, block), info);
            for (int i = 0; i < 15; i++) {
                for (int j = i + 1; j < 15; j++) {
                    for (long errors = 0; errors < 256; errors++) {
                        long turned = block ^ (errors & 15) << 4 * i ^ (errors >>> 4) << 4 * j;
                        Check.due("decode down, symbols " + i + ", " + j, LINK.decode(false, turned), info);
                    }
                }
            }
        }
    }

    private static void answersAsTryingEverything() {
        for (int i = 0; i < 4000; i++) {
            long block = RANDOM.nextLong() >>> 1;
            Check.due("decode up " + block, LINK.decode(true, block), Codes.decode(true, block));
        }
        for (int i = 0; i < 600; i++) {
            long block = RANDOM.nextLong() >>> 4;
            Check.due("decode down " + block, LINK.decode(false, block), Codes.decode(false, block));
            long three = LINK.encode(false, block);
            for (int n = 0; n < 3; n++) {
                three ^= (long) (1 + RANDOM.nextInt(15)) << 4 * RANDOM.nextInt(15);
            }
            Check.due("decode down " + three, LINK.decode(false, three), Codes.decode(false, three));
        }
    }

    public static void main(String[] args) {
        encodesTheDocumentsBlocks();
        answersKnownBlocks();
        looksAtTheLowestBitsAlone();
        mendsOneBitUp();
        mendsTwoSymbolsDown();
        answersAsTryingEverything();
        Check.end();
    }
}
