/**
 * A test for each of the promises 1 to 18 (CodesTest has 19 and 20). The numbers that are due were
 * worked out by hand from the document; with a delay of 1, T is 8, 3T is 24 and 12T is 96.
 */
public final class PromisesTest {
    private static final int MIN = Integer.MIN_VALUE;
    private static final int MAX = Integer.MAX_VALUE;

    private static void due(String what, long got, long want) {
        Check.due(what, got, want);
    }

    private static void due(String what, boolean got, boolean want) {
        Check.due(what, got, want);
    }

    /** Turns the info of the next block into another one that no check sees. */
    private static void forge(FarLink x, boolean up, long difference) {
        x.noise(up, x.encode(up, difference) ^ x.encode(up, 0));
    }

    private static void window(String what, FarLink x, int state, int next, int unconfirmed, int marked) {
        due(what, x.window(), state + 4 * next + 64 * unconfirmed + 512 * marked);
    }

    /** File 0: 10, 20, 30, .. */
    private static FarLink filled(int delay) {
        FarLink x = new FarLink(delay);
        for (int k = 0; k < 16; k++) {
            x.write(0, k, 10 * (k + 1));
        }
        return x;
    }

    private static void newObject1() {
        FarLink x = new FarLink(3);
        due("1 time", x.time(), 0);
        due("1 report", x.report(), 0);
        due("1 window", x.window(), 0);
        due("1 alerts", x.alerts(), 0);
        for (int t = -1; t <= 16; t++) {
            due("1 outcome", x.outcome(false, t), -1);
            due("1 record", x.outcome(true, t), -1);
            due("1 missing", x.missing(t), -1);
            due("1 taken", x.taken(t, 0), 0);
            due("1 stored", x.stored(t, -1), 0);
        }
        due("1 nothing happens", x.run(100), 0);
        due("1 nothing is sent", x.sent(true), 0);
        due("1 every report is heard", x.sent(false), 100);
        due("1 no noise up", x.faults(true), 0);
        due("1 no noise down", x.faults(false), 0);
        for (int f = 0; f < 4; f++) {
            FarLink y = new FarLink(1);
            y.put(f, 16, f, true);
            y.run(40);
            due("1 file " + f, y.stored(f, -1), 16);
            for (int k = 0; k < 16; k++) {
                due("1 word of file " + f, y.stored(f, k), 0);
            }
        }
    }

    private static void delay1() {
        int[] given = {1, 2, 3, 4, 5, 0, -1, MIN, 6, 7, MAX};
        int[] held = {1, 2, 3, 4, 5, 1, 1, 1, 5, 5, 5};
        for (int i = 0; i < given.length; i++) {
            FarLink x = new FarLink(given[i]);
            x.put(0, 0, 0, true);
            // METADATA goes in tick 1 and EOF in tick 2: heard D ticks later.
            x.run(held[i]);
            due("1 delay " + given[i] + ", before", x.missing(0), -1);
            x.run(1);
            due("1 delay " + given[i] + ", METADATA", x.missing(0), 0x2FFFF);
            x.run(1);
            due("1 delay " + given[i] + ", EOF", x.missing(0), 0xFFFF);
            // FINISHED goes after GOT, in tick D + 3.
            x.run(held[i]);
            due("1 delay " + given[i] + ", before the end", x.outcome(false, 0), 0);
            x.run(1);
            due("1 delay " + given[i] + ", end", x.outcome(false, 0), 9);
        }
    }

    private static void write2() {
        FarLink x = new FarLink(1);
        due("2 first", x.write(0, 0, MIN), true);
        due("2 last", x.write(3, 15, MAX), true);
        int[][] wrong = {{-1, 0}, {4, 0}, {0, -1}, {0, 16}, {MIN, MIN}, {MAX, MAX}, {1, MAX}, {MAX, 1}};
        for (int[] place : wrong) {
            due("2 no such word", x.write(place[0], place[1], 5), false);
        }
        due("2 again", x.write(0, 0, 7), true);
        x.put(0, 16, 0, true);
        due("2 after the put", x.write(0, 0, 8), true);
        x.put(3, 16, 1, true);
        x.run(60);
        due("2 word as at the put", x.stored(0, 0), 7);
        due("2 last word", x.stored(1, 15), MAX);
        for (int k = 1; k < 16; k++) {
            due("2 other words", x.stored(0, k), 0);
            due("2 other words", x.stored(1, k - 1), 0);
        }
    }

    private static void put3() {
        FarLink x = filled(1);
        int[][] wrong = {{-1, 0, 0}, {4, 0, 0}, {0, -1, 0}, {0, 17, 0}, {0, 0, -1}, {0, 0, 4},
            {MIN, 1, 1}, {MAX, 1, 1}, {1, MIN, 1}, {1, MAX, 1}, {1, 1, MIN}, {1, 1, MAX}};
        for (int[] numbers : wrong) {
            due("3 refused", x.put(numbers[0], numbers[1], numbers[2], false), -1);
        }
        due("3 nothing was begun", x.outcome(false, 0), -1);
        for (int t = 0; t < 16; t++) {
            due("3 number", x.put(t % 4, t, t % 4, t % 2 == 0), t);
            due("3 under way", x.outcome(false, t), 0);
        }
        due("3 a seventeenth", x.put(0, 0, 0, false), -1);
        due("3 no seventeenth", x.outcome(false, 16), -1);
        x.run(100);
        x.run(100);
        x.run(100);
        for (int t = 0; t < 16; t++) {
            due("3 ended", x.outcome(false, t), 9);
            due("3 closed", x.outcome(true, t), 9);
        }
        due("3 length of the last", x.stored(0, -1), 12);
        due("3 word", x.stored(0, 11), 120);
        due("3 no word", x.stored(0, 12), 0);
        FarLink y = filled(1);
        y.put(0, 16, 3, true);
        y.run(12);
        window("3 past the order has no numbers", y, 0, 0, 0, 0);
        y.put(0, 0, 2, false);
        y.run(30);
        window("3 METADATA, EOF and DONE in order", y, 0, 3, 0, 0);
        due("3 sixteen words", y.stored(3, 15), 160);
    }

    private static void cancel4() {
        FarLink x = filled(1);
        due("4 none", x.cancel(0), false);
        x.put(0, 16, 0, true);
        x.put(0, 1, 1, true);
        due("4 none", x.cancel(-1), false);
        due("4 none", x.cancel(2), false);
        due("4 none", x.cancel(MAX), false);
        due("4 none", x.cancel(MIN), false);
        x.run(3);
        due("4 cancelled", x.cancel(0), true);
        due("4 twice", x.cancel(0), false);
        due("4 still under way", x.outcome(false, 0), 0);
        // CANCEL in tick 4, heard in 5; GOT in 5, FINISHED in 6, heard in 7; DONE in 7, heard in 8.
        due("4 ended", x.run(4), 1);
        due("4 outcome 5", x.outcome(false, 0), 13);
        due("4 record", x.outcome(true, 0), 5);
        due("4 three parts were taken", x.missing(0), 0x2FFFC);
        due("4 ended", x.cancel(0), false);
        due("4 closed", x.run(1), 1);
        due("4 record", x.outcome(true, 0), 13);
        due("4 nothing is stored", x.stored(0, -1), 0);
        x.run(30);
        due("4 the other one", x.outcome(false, 1), 9);
        due("4 ended well", x.cancel(1), false);
    }

    private static void cancelWithoutAnswer4() {
        FarLink x = filled(1);
        x.put(0, 4, 0, true);
        x.outage(true, 200);
        // EOF in tick 6; the clock's 24 have run to 10 when CANCEL takes its place.
        x.run(20);
        due("4 sent", x.sent(true), 6);
        x.cancel(0);
        x.run(24);
        due("4 CANCEL once", x.sent(true), 7);
        x.run(1);
        due("4 CANCEL again", x.sent(true), 8);
        // Sent in 21, 45, 69 and 93: given up in 117.
        due("4 not yet", x.run(71), 0);
        due("4 given up", x.run(1), 1);
        due("4 outcome 3", x.outcome(false, 0), 11);
        due("4 four times", x.sent(true), 10);
        due("4 no record", x.outcome(true, 0), -1);
    }

    /** What CANCEL does not use is 0: seen when it is turned into another kind on the way. */
    private static void cancelIsEmpty4() {
        FarLink x = filled(1);
        x.put(0, 16, 3, true);
        x.cancel(0);
        forge(x, true, 6L << 44);
        x.run(2);
        due("4 CANCEL turned into DATA, position 0", x.missing(0), 0x3FFFE);
        due("4 CANCEL turned into DATA, word 0", x.taken(0, 0), 0);
        FarLink y = filled(1);
        y.put(0, 0, 3, true);
        y.run(1);
        y.cancel(0);
        forge(y, true, 7L << 44);
        y.run(2);
        due("4 CANCEL turned into EOF, position 0 and word 0", y.outcome(true, 0), 1);
    }

    private static void suspend5() {
        FarLink x = filled(1);
        due("5 none", x.suspend(0, true), false);
        x.put(0, 2, 0, true);
        due("5 none", x.suspend(-1, true), false);
        due("5 none", x.suspend(1, true), false);
        due("5 none", x.suspend(MAX, false), false);
        due("5 is so already", x.suspend(0, false), false);
        due("5 suspended", x.suspend(0, true), true);
        due("5 is so already", x.suspend(0, true), false);
        x.run(50);
        due("5 nothing is sent", x.sent(true), 0);
        due("5 no more", x.suspend(0, false), true);
        x.run(6);
        due("5 not ended", x.outcome(false, 0), 0);
        due("5 suspended", x.suspend(0, true), true);
        due("5 ended all the same", x.run(1), 1);
        due("5 ended", x.suspend(0, true), false);
        due("5 ended is not suspended", x.suspend(0, false), false);
        due("5 DONE is sent", x.run(1), 1);
    }

    private static void suspendedClocks5() {
        FarLink x = new FarLink(1);
        x.put(0, 0, 0, true);
        x.outage(true, 200);
        // EOF in tick 2, so again in 26, 50 and 74, and given up in 98; 30 ticks don't count.
        x.run(10);
        x.suspend(0, true);
        x.run(30);
        x.suspend(0, false);
        x.run(15);
        due("5 clock stood still", x.sent(true), 2);
        x.run(1);
        due("5 and goes on", x.sent(true), 3);
        due("5 not given up", x.run(71), 0);
        due("5 given up", x.run(1), 1);
    }

    private static void suspendedMarked5() {
        FarLink x = filled(1);
        x.put(0, 2, 0, false);
        x.outage(true, 2);
        x.run(2);
        x.suspend(0, true);
        window("5 two frames", x, 0, 2, 2, 0);
        // The clock was set in tick 2: it runs out in tick 10.
        x.run(7);
        due("5 none sent", x.sent(true), 2);
        x.run(1);
        due("5 a marked one is sent", x.sent(true), 3);
        window("5 one is still marked", x, 0, 2, 2, 1);
        x.run(5);
        window("5 both confirmed", x, 0, 2, 0, 0);
        due("5 and no other", x.sent(true), 4);
    }

    private static void noise6() {
        FarLink x = filled(1);
        x.noise(true, 1L << 40);
        x.noise(false, 15L << 8 | 1L << 60 | 1L << 63);
        x.run(2);
        due("6 down, mended", x.faults(false), 65536);
        x.put(0, 3, 0, true);
        x.noise(true, Long.MIN_VALUE);
        x.run(2);
        due("6 up, kept for the next block, mended", x.faults(true), 65536);
        x.noise(true, 3);
        x.noise(true, 3L << 5 ^ 3);
        x.noise(true, 3L << 5);
        x.run(2);
        due("6 turned twice is as it was", x.faults(true), 65536);
        x.noise(true, 1);
        x.noise(true, 1L << 62);
        x.run(2);
        due("6 both calls count", x.faults(true), 65537);
        x.noise(false, 1L | 1L << 30 | 1L << 60);
        x.run(2);
        due("6 down, two symbols are mended", x.faults(false), 2 * 65536);
        x.run(1);
        due("6 the next block alone", x.faults(false), 2 * 65536);
        due("6 the other way has none of it", x.faults(true), 65537);
        FarLink y = new FarLink(1);
        y.put(0, 0, 0, true);
        y.noise(true, 3);
        y.outage(true, 1);
        y.run(2);
        due("6 one in an outage takes it", y.faults(true), 0);
        y.run(1);
        due("6 the next has none", y.faults(true), 0);
        due("6 and is heard", y.missing(0), 0x1FFFF);
    }

    private static void outage7() {
        FarLink x = new FarLink(1);
        for (int n : new int[] {-1, 201, MIN, MAX}) {
            due("7 refused", x.outage(true, n), false);
            due("7 refused", x.outage(false, n), false);
        }
        x.put(0, 16, 0, true);
        due("7 none", x.outage(true, 0), true);
        due("7 most", x.outage(true, 200), true);
        x.run(2);
        due("7 fewer", x.outage(true, 3), true);
        due("7 refused, so still three", x.outage(true, 201), false);
        x.run(5);
        // Lost: METADATA and words 0 to 3. Word 4 goes in tick 6.
        due("7 heard", x.missing(0), 0x3FFEF);
        due("7 told anew", x.outage(true, 5), true);
        due("7 ended", x.outage(true, 0), true);
        x.run(1);
        due("7 heard", x.missing(0), 0x3FFCF);
        FarLink y = new FarLink(1);
        y.put(0, 0, 0, true);
        // GOT goes in tick 3 and FINISHED in tick 4.
        y.outage(false, 4);
        y.run(26);
        due("7 down, not ended", y.outcome(false, 0), 0);
        due("7 down, sent in an outage", y.sent(false), 26);
        // FINISHED again 24 ticks after tick 3, less the step of tick 3 itself.
        due("7 down, ended by the next", y.run(1), 1);
        FarLink z = new FarLink(1);
        z.outage(false, 200);
        z.run(100);
        z.run(100);
        z.put(0, 0, 0, true);
        z.run(5);
        due("7 two hundred, no more", z.outcome(false, 0), 9);
    }

    private static void runAndTime89() {
        FarLink x = filled(1);
        x.put(0, 2, 0, true);
        for (int n : new int[] {-1, 101, MIN, MAX}) {
            due("8 refused", x.run(n), -1);
        }
        due("9 no time has gone", x.time(), 0);
        due("8 none", x.run(0), 0);
        due("9 no time has gone", x.time(), 0);
        // METADATA, two words, EOF in ticks 1 to 4; GOT, FINISHED in 5 and 6; DONE in 7.
        due("8 six", x.run(6), 0);
        due("9 six", x.time(), 6);
        due("8 ended", x.run(1), 1);
        due("8 closed", x.run(1), 1);
        due("8 no more", x.run(100), 0);
        due("9 time", x.time(), 108);
        x.put(0, 2, 0, true);
        x.put(0, 2, 0, false);
        due("8 all", x.run(100), 4);
        due("9 time", x.time(), 208);
    }

    private static void conditions10() {
        FarLink x = filled(1);
        x.put(0, 1, 0, true);
        due("10 under way", x.outcome(false, 0), 0);
        due("10 no record yet", x.outcome(true, 0), -1);
        x.run(2);
        due("10 open", x.outcome(true, 0), 0);
        x.run(2);
        due("10 ending", x.outcome(true, 0), 1);
        due("10 under way", x.outcome(false, 0), 0);
        x.run(2);
        due("10 ended", x.outcome(false, 0), 9);
        due("10 ending", x.outcome(true, 0), 1);
        x.run(1);
        due("10 closed", x.outcome(true, 0), 9);
        for (int t : new int[] {-1, 1, 16, MIN, MAX}) {
            due("10 none", x.outcome(false, t), -1);
            due("10 none", x.outcome(true, t), -1);
        }
    }

    /** A word that is turned on the way makes the sum wrong, a position that is turned the length. */
    private static void wrongFile10() {
        FarLink x = filled(1);
        x.put(0, 1, 0, true);
        x.run(1);
        forge(x, true, 1);
        x.run(3);
        due("10 sum is wrong", x.outcome(true, 0), 2);
        due("11 word as taken", x.taken(0, 0), 11);
        x.run(10);
        due("10 closed with 2", x.outcome(true, 0), 10);
        due("10 ended with 2", x.outcome(false, 0), 10);
        due("13 nothing stored", x.stored(0, -1), 0);
        FarLink y = filled(1);
        forge(y, true, 3L << 32);
        y.put(0, 1, 0, true);
        y.run(4);
        due("10 length is wrong", y.outcome(true, 0), 2);
        due("13 nothing stored", y.stored(0, -1), 0);
    }

    /** METADATA in tick 1, a word that is lost in 2, EOF in 3; heard in 4. */
    private static FarLink withoutItsWord() {
        FarLink x = filled(1);
        x.put(0, 1, 0, true);
        x.run(1);
        x.outage(true, 1);
        x.run(3);
        return x;
    }

    private static void idle10() {
        FarLink x = withoutItsWord();
        due("12 word 0 is missing", x.missing(0), 0xFFFF);
        x.outage(false, 200);
        // GOT was sent in tick 4; LACK and all after it is lost. 12T from tick 4 and from tick 5 on.
        due("10 not idle for long enough", x.run(94), 0);
        due("9 time", x.time(), 98);
        due("10 the craft gives up", x.run(1), 1);
        due("10 closed with 4", x.outcome(true, 0), 12);
        due("10 the ground gives up", x.run(1), 1);
        due("10 ended with 4", x.outcome(false, 0), 12);
    }

    private static void limits10() {
        FarLink x = filled(1);
        x.put(0, 1, 0, true);
        x.outage(false, 200);
        x.run(1);
        x.outage(true, 1);
        // EOF goes in ticks 3, 27, 51 and 75; the craft's clock runs out in 27, 51, 75 and 99.
        due("10 not yet", x.run(97), 0);
        due("17 four times EOF", x.sent(true), 6);
        due("10 under way", x.outcome(false, 0), 0);
        due("10 open", x.outcome(true, 0), 0);
        due("10 at the limit", x.run(1), 1);
        due("10 ended with 3", x.outcome(false, 0), 11);
        due("10 ending with 3", x.outcome(true, 0), 3);
        // FINISHED in ticks 99, 123, 147 and 171, all in the outage; closed in 195.
        due("10 not yet", x.run(95), 0);
        due("10 ending with 3", x.outcome(true, 0), 3);
        due("10 closed", x.run(1), 1);
        due("10 closed with 3", x.outcome(true, 0), 11);
    }

    private static void lackIsSentAgain() {
        FarLink x = withoutItsWord();
        // LACK in tick 5, heard in 6, the word in 6, heard in 7: whole.
        x.run(2);
        due("10 open", x.outcome(true, 0), 0);
        x.run(1);
        due("10 ending with 1", x.outcome(true, 0), 1);
        due("12 nothing but words above", x.missing(0), 0xFFFE);
        due("13 stored", x.stored(0, 0), 10);
        due("17 METADATA, word, EOF, word", x.sent(true), 4);
    }

    private static void taken11() {
        FarLink x = filled(1);
        x.put(0, 3, 2, true);
        x.run(3);
        due("11 word 0", x.taken(0, 0), 10);
        due("11 not yet", x.taken(0, 1), 0);
        x.run(20);
        due("11 word 2", x.taken(0, 2), 30);
        for (int k : new int[] {3, 15, 16, -1, MIN, MAX}) {
            due("11 no such word", x.taken(0, k), 0);
        }
        for (int t : new int[] {1, 15, 16, -1, MIN, MAX}) {
            due("11 no such record", x.taken(t, 0), 0);
        }
        FarLink y = filled(1);
        y.put(0, 2, 2, true);
        y.run(1);
        // Word 0 comes as word 15, and then there is no place for a word 16 + 1.
        forge(y, true, 15L << 32);
        y.run(1);
        forge(y, true, 16L << 32);
        y.run(1);
        y.run(1);
        due("11 word 15", y.taken(0, 15), 10);
        due("11 position 17 is not taken", y.missing(0), 0x27FFF);
    }

    private static void missing12() {
        FarLink x = filled(1);
        x.put(0, 2, 0, true);
        x.run(1);
        due("12 no record", x.missing(0), -1);
        x.run(1);
        due("12 METADATA came", x.missing(0), 0x2FFFF);
        x.run(1);
        due("12 word 0 came", x.missing(0), 0x2FFFE);
        x.run(1);
        due("12 word 1 came", x.missing(0), 0x2FFFC);
        x.run(1);
        due("12 EOF came", x.missing(0), 0x0FFFC);
        for (int t : new int[] {1, 15, 16, -1, MIN, MAX}) {
            due("12 no record", x.missing(t), -1);
        }
        FarLink y = filled(1);
        y.put(0, 0, 0, true);
        // METADATA (kind 1) becomes CANCEL (kind 4).
        forge(y, true, 5L << 44);
        y.run(2);
        due("12 made by CANCEL", y.missing(0), 0x3FFFF);
        due("10 ended by CANCEL", y.outcome(true, 0), 5);
        FarLink z = filled(1);
        z.put(0, 16, 0, true);
        z.run(25);
        due("12 nothing", z.missing(0), 0);
    }

    private static void recordOfNoTransaction12() {
        FarLink x = filled(1);
        x.put(0, 0, 0, true);
        forge(x, true, 9L << 40);
        x.run(2);
        due("12 record 9", x.missing(9), 0x2FFFF);
        due("10 record 9", x.outcome(true, 9), 0);
        due("10 no transaction 9", x.outcome(false, 9), -1);
        due("12 no record 0", x.missing(0), -1);
    }

    private static void stored13() {
        FarLink x = filled(1);
        x.write(1, 0, -5);
        x.put(0, 4, 3, true);
        // The last word goes in tick 5, EOF in 6.
        x.run(6);
        due("13 not yet", x.stored(3, -1), 0);
        x.run(1);
        due("13 length", x.stored(3, -1), 4);
        due("13 word 0", x.stored(3, 0), 10);
        due("13 word 3", x.stored(3, 3), 40);
        for (int k : new int[] {4, 15, 16, -2, MIN, MAX}) {
            due("13 no such word", x.stored(3, k), 0);
        }
        for (int name : new int[] {0, 2, 4, -1, MIN, MAX}) {
            due("13 no such file", x.stored(name, 0), 0);
            due("13 no such file", x.stored(name, -1), 0);
        }
        x.put(1, 2, 3, true);
        x.run(20);
        due("13 shorter", x.stored(3, -1), 2);
        due("13 another word", x.stored(3, 0), -5);
        due("13 gone", x.stored(3, 2), 0);
        x.put(1, 0, 3, true);
        x.run(20);
        due("13 empty", x.stored(3, -1), 0);
        due("13 empty", x.stored(3, 0), 0);
    }

    private static void lockedAndSet1415() {
        FarLink x = filled(1);
        x.put(0, 8, 0, false);
        forge(x, true, 8L << 48);
        x.run(2);
        due("14 LOCKED", x.report(), 16);
        window("15 two frames", x, 0, 2, 2, 0);
        x.run(1);
        window("15 UNLOCKING", x, 1, 2, 0, 0);
        due("16 an alert", x.alerts(), 1);
        due("14 LOCKED", x.report(), 16);
        x.run(1);
        due("14 not LOCKED", x.report(), 0);
        window("15 UNLOCKING", x, 1, 2, 0, 0);
        x.run(1);
        window("15 SETTING", x, 2, 2, 0, 0);
        x.run(1);
        due("14 set to 2", x.report(), 2);
        window("15 SETTING", x, 2, 2, 0, 0);
        x.run(1);
        window("15 ACTIVE, and a frame is sent", x, 0, 3, 1, 0);
        due("17 two frames, UNLOCK, SET, a frame", x.sent(true), 5);
        due("16 no more alerts", x.alerts(), 1);
        x.run(60);
        due("10 ended", x.outcome(false, 0), 9);
        due("13 stored", x.stored(0, 7), 80);
    }

    private static void again1415() {
        FarLink x = filled(1);
        x.put(0, 8, 0, false);
        x.outage(true, 1);
        x.run(2);
        due("14 nothing heard", x.report(), 0);
        x.run(1);
        due("14 AGAIN", x.report(), 32);
        window("15 three frames", x, 0, 3, 3, 0);
        x.run(1);
        window("15 all marked, one sent", x, 0, 3, 3, 2);
        x.run(1);
        due("14 the first came", x.report(), 1);
        window("15 two sent", x, 0, 3, 3, 1);
        x.run(1);
        due("14 the second came", x.report(), 2);
        window("15 one confirmed, three sent", x, 0, 3, 2, 0);
        x.run(1);
        due("14 the third came", x.report(), 3);
        window("15 the next", x, 0, 4, 2, 0);
        due("16 no alert", x.alerts(), 0);
    }

    private static void noAnswer1516() {
        FarLink x = filled(1);
        x.put(0, 16, 0, false);
        x.outage(true, 200);
        x.run(14);
        window("15 seven frames", x, 0, 7, 7, 0);
        due("17 seven", x.sent(true), 7);
        x.run(1);
        window("15 marked in tick 15, one sent", x, 0, 7, 7, 6);
        x.run(6);
        window("15 all sent again by tick 21", x, 0, 7, 7, 0);
        // The clock runs out 8 ticks after the last frame: in 29, 43 and, with COUNT 4, in 57.
        x.run(35);
        due("9 time", x.time(), 56);
        window("15 seven frames", x, 0, 7, 7, 0);
        due("16 none yet", x.alerts(), 0);
        x.run(1);
        window("15 SETTING", x, 2, 7, 0, 0);
        due("16 an alert", x.alerts(), 1);
        due("17 SET", x.sent(true), 29);
        x.run(7);
        due("17 not again yet", x.sent(true), 29);
        x.run(1);
        due("17 SET again", x.sent(true), 30);
        x.outage(true, 0);
        // SET once more in tick 73, heard in 74, and that is heard in 75: a frame goes then.
        x.run(10);
        due("14 set to 7", x.report(), 7);
        window("15 ACTIVE", x, 0, 8, 1, 0);
        x.run(1);
        due("14 and the next frame came", x.report(), 8);
    }

    private static void outOfTheWindow16() {
        FarLink x = new FarLink(1);
        forge(x, false, 1);
        x.run(1);
        due("16 not yet", x.alerts(), 0);
        x.run(1);
        due("16 a report of what was not sent", x.alerts(), 1);
        window("15 SETTING", x, 2, 0, 0, 0);
        due("17 SET", x.sent(true), 1);
        x.run(1);
        window("15 ACTIVE", x, 0, 0, 0, 0);
    }

    private static void sentAndFaults1718() {
        FarLink x = filled(1);
        x.put(0, 1, 0, true);
        x.noise(true, 1L << 62);
        x.run(1);
        due("17 up", x.sent(true), 1);
        due("17 down", x.sent(false), 1);
        due("18 not heard yet", x.faults(true), 0);
        x.noise(true, 5);
        x.noise(false, 7L << 56);
        x.run(1);
        due("18 mended", x.faults(true), 65536);
        due("18 down not heard yet", x.faults(false), 0);
        forge(x, true, 1L << 52);
        x.run(1);
        due("18 spoilt", x.faults(true), 65537);
        due("18 down mended", x.faults(false), 65536);
        x.run(1);
        due("18 a code block", x.faults(true), 65537);
        // Three symbols turned by 1, 1, 2: no code block is near.
        x.noise(false, 0x112);
        x.run(2);
        due("18 down spoilt", x.faults(false), 65537);
        due("17 down", x.sent(false), 6);
        x.noise(false, 0x112);
        x.outage(false, 1);
        x.run(2);
        due("18 what is not heard is no fault", x.faults(false), 65537);
        due("17 in an outage, too", x.sent(false), 8);
    }

    public static void main(String[] args) {
        newObject1();
        delay1();
        write2();
        put3();
        cancel4();
        cancelWithoutAnswer4();
        cancelIsEmpty4();
        suspend5();
        suspendedClocks5();
        suspendedMarked5();
        noise6();
        outage7();
        runAndTime89();
        conditions10();
        wrongFile10();
        idle10();
        limits10();
        lackIsSentAgain();
        taken11();
        missing12();
        recordOfNoTransaction12();
        stored13();
        lockedAndSet1415();
        again1415();
        noAnswer1516();
        outOfTheWindow16();
        sentAndFaults1718();
        Check.end();
    }
}
