/**
 * The boundary cases of the calls themselves, promises 1 to 13, 17 and 18, each sentence by a test
 * of its own: the numbers at a boundary, just inside it and just outside it. That a refused call
 * changes nothing has RefusedEdgesTest.
 */
public final class CallsEdgesTest {
    private static final int MIN = Integer.MIN_VALUE;
    private static final int MAX = Integer.MAX_VALUE;
    private static final int[] NO_FILES = {-1, 4, 5, 16, -4, MIN, MAX};
    private static final int[] NO_WORDS = {-1, 16, 17, 32, -16, MIN, MAX};

    /** File 0: 10, 20, 30, .. */
    private static FarLink filled(int delay) {
        FarLink x = new FarLink(delay);
        for (int k = 0; k < 16; k++) {
            x.write(0, k, 10 * (k + 1));
        }
        return x;
    }

    // Promise 1.

    /** METADATA goes in tick 1 and EOF in tick 2; nothing is answered, and EOF goes again 3T later. */
    private static void hasDelay(String what, int given, int d) {
        FarLink x = new FarLink(given);
        x.put(0, 0, 0, true);
        x.outage(false, 200);
        x.run(d);
        Check.due(what + ", METADATA is not heard yet", x.missing(0), -1);
        x.run(1);
        Check.due(what + ", METADATA is heard", x.missing(0), 0x2FFFF);
        x.run(2 + 3 * (2 * d + 6) - d - 2);
        Check.due(what + ", EOF went once", x.sent(true), 2);
        x.run(1);
        Check.due(what + ", EOF went twice", x.sent(true), 3);
    }

    private static void delay() {
        Check.sentence("A delay D of 1 to 5 ticks");
        for (int d = 1; d <= 5; d++) {
            hasDelay("delay " + d, d, d);
        }
        Check.sentence("(below 1 counts as 1");
        for (int given : new int[] {0, -1, -5, MIN, MIN + 1}) {
            hasDelay("delay " + given, given, 1);
        }
        Check.sentence("above 5 as 5)");
        for (int given : new int[] {6, 7, 8, 100, MAX - 1, MAX}) {
            hasDelay("delay " + given, given, 5);
        }
    }

    private static void filesOfZeros() {
        Check.sentence("The ground's 4 files are 16 words 0");
        for (int f = 0; f < 4; f++) {
            FarLink x = new FarLink(1);
            x.put(f, 16, 3, true);
            x.run(22);
            Check.due("file " + f + ", length", x.stored(3, -1), 16);
            Check.due("file " + f + ", all were taken", x.missing(0), 0);
            for (int k = 0; k < 16; k++) {
                Check.due("file " + f + ", word " + k, x.taken(0, k), 0);
            }
        }
    }

    private static void emptyStore() {
        Check.sentence("the craft's store is empty");
        FarLink x = new FarLink(5);
        for (int name = -1; name <= 4; name++) {
            for (int k = -2; k <= 16; k++) {
                Check.due("stored(" + name + ", " + k + ")", x.stored(name, k), 0);
            }
        }
    }

    private static void noTransactions() {
        Check.sentence("no transactions, no noise, no outage");
        FarLink x = new FarLink(1);
        for (int t = -1; t <= 16; t++) {
            Check.due("outcome(false, " + t + ")", x.outcome(false, t), -1);
            Check.due("outcome(true, " + t + ")", x.outcome(true, t), -1);
            Check.due("missing(" + t + ")", x.missing(t), -1);
            Check.due("taken(" + t + ", 0)", x.taken(t, 0), 0);
            Check.due("cancel(" + t + ")", x.cancel(t), false);
            Check.due("suspend(" + t + ", true)", x.suspend(t, true), false);
            Check.due("suspend(" + t + ", false)", x.suspend(t, false), false);
        }
        x.put(0, 0, 0, true);
        x.run(2);
        Check.due("the first block up is heard", x.missing(0), 0x2FFFF);
        Check.due("the first block up is as it was", x.faults(true), 0);
        FarLink y = new FarLink(1);
        y.put(0, 0, 0, true);
        Infos.turn(y, false, 0, Infos.down(0, Infos.FINISHED, 0, 3));
        y.run(2);
        Check.due("the first block down is heard", y.outcome(false, 0), 11);
        Check.due("the first block down is as it was", y.faults(false), 0);
    }

    // Promise 2.

    private static void writeInside() {
        Check.sentence("Word k (0 .. 15) of the ground's file f (0 .. 3) becomes v");
        int[] values = {MIN, MAX, -1, 1};
        for (int f : new int[] {0, 1, 2, 3}) {
            for (int k : new int[] {0, 1, 14, 15}) {
                FarLink x = new FarLink(1);
                Check.due("write(" + f + ", " + k + ")", x.write(f, k, values[f]), true);
                for (int file = 0; file < 4; file++) {
                    x.put(file, 16, file, true);
                }
                x.run(80);
                for (int file = 0; file < 4; file++) {
                    for (int word = 0; word < 16; word++) {
                        int want = file == f && word == k ? values[f] : 0;
                        Check.due("write(" + f + ", " + k + "), word " + word + " of " + file,
                            x.stored(file, word), want);
                    }
                }
            }
        }
        FarLink y = new FarLink(1);
        y.write(0, 0, 5);
        Check.due("written twice", y.write(0, 0, 6), true);
        y.put(0, 1, 0, true);
        y.run(5);
        Check.due("the second one holds", y.stored(0, 0), 6);
    }

    private static void writeOutside() {
        Check.sentence("write: false when there is none");
        FarLink x = new FarLink(1);
        for (int f : NO_FILES) {
            Check.due("write(" + f + ", 0, 1)", x.write(f, 0, 1), false);
            Check.due("write(" + f + ", 15, 1)", x.write(f, 15, 1), false);
        }
        for (int k : NO_WORDS) {
            Check.due("write(0, " + k + ", 1)", x.write(0, k, 1), false);
            Check.due("write(3, " + k + ", 1)", x.write(3, k, 1), false);
        }
        Check.due("write(-1, -1, 1)", x.write(-1, -1, 1), false);
        Check.due("write(4, 16, 1)", x.write(4, 16, 1), false);
    }

    // Promise 3.

    private static void putInside() {
        Check.sentence("the first length (0 .. 16) words of the ground's file f (0 .. 3) to .. a name (0 .. 3)");
        for (int length : new int[] {0, 1, 2, 15, 16}) {
            for (int n : new int[] {0, 3}) {
                FarLink x = new FarLink(1);
                for (int k = 0; k < 16; k++) {
                    x.write(n, k, 10 * (k + 1));
                }
                Check.due("put(" + n + ", " + length + ", " + n + ")", x.put(n, length, n, length % 2 == 0), 0);
                x.run(60);
                Check.due("ended, length " + length, x.outcome(false, 0), 9);
                Check.due("closed, length " + length, x.outcome(true, 0), 9);
                Check.due("length " + length, x.stored(n, -1), length);
                for (int k = 0; k < 16; k++) {
                    Check.due("length " + length + ", word " + k, x.stored(n, k), k < length ? 10 * (k + 1) : 0);
                }
                Check.due("another name", x.stored(3 - n, -1), 0);
            }
        }
    }

    private static void putOutside() {
        Check.sentence("put: -1 when a number is not as said");
        FarLink x = new FarLink(1);
        for (int n : NO_FILES) {
            Check.due("put(" + n + ", 1, 0)", x.put(n, 1, 0, true), -1);
            Check.due("put(0, 1, " + n + ")", x.put(0, 1, n, false), -1);
        }
        for (int length : new int[] {-1, 17, 18, 32, -16, MIN, MAX}) {
            Check.due("put(0, " + length + ", 0)", x.put(0, length, 0, true), -1);
        }
        Check.due("put(4, 17, 4)", x.put(4, 17, 4, true), -1);
        Check.due("the first number", x.put(0, 0, 0, true), 0);
    }

    private static void putSixteen() {
        Check.sentence("Answers its number: 0 for the first, then 1, ..; -1 when .. there were 16.");
        FarLink x = new FarLink(1);
        for (int t = 0; t < 16; t++) {
            Check.due("put " + t, x.put(0, 0, 0, t % 2 == 0), t);
        }
        Check.due("a seventeenth", x.put(0, 0, 0, true), -1);
        Check.due("a seventeenth, in order", x.put(3, 16, 3, false), -1);
        Check.due("the sixteenth is there", x.outcome(false, 15), 0);
        Check.due("no seventeenth is there", x.outcome(false, 16), -1);
        x.cancel(0);
        Check.due("not in the place of a cancelled one", x.put(0, 0, 0, true), -1);
        x.run(100);
        x.run(100);
        for (int t = 0; t < 16; t++) {
            Check.due("ended " + t, x.outcome(false, t), t == 0 ? 13 : 9);
        }
        Check.due("not in the place of an ENDED one", x.put(0, 0, 0, true), -1);
    }

    // Promises 4 and 5.

    private static FarLink ended(int outcome) {
        FarLink x = new FarLink(1);
        x.put(0, 0, 0, true);
        Infos.turn(x, false, 0, Infos.down(0, Infos.FINISHED, 0, outcome));
        x.run(2);
        Check.due("ended with " + outcome, x.outcome(false, 0), 8 + outcome);
        return x;
    }

    /** ENDED because nothing is answered: EOF in tick 2, 26, 50 and 74. */
    private static FarLink endedByTheLimit() {
        FarLink x = new FarLink(1);
        x.put(0, 0, 0, true);
        x.outage(true, 200);
        x.run(98);
        Check.due("ended with 3", x.outcome(false, 0), 11);
        return x;
    }

    private static void cancelNone() {
        Check.sentence("cancel: false when there is none");
        FarLink x = new FarLink(1);
        Check.due("cancel(0), no put", x.cancel(0), false);
        x.put(0, 1, 0, true);
        x.put(0, 1, 0, true);
        for (int t : new int[] {-1, 2, 3, 15, 16, 17, MIN, MAX}) {
            Check.due("cancel(" + t + ") of two", x.cancel(t), false);
        }
        Check.due("cancel(1) of two", x.cancel(1), true);
        Check.due("cancel(0) of two", x.cancel(0), true);
        FarLink all = new FarLink(1);
        for (int t = 0; t < 16; t++) {
            all.put(0, 1, 0, true);
        }
        Check.due("cancel(16) of sixteen", all.cancel(16), false);
        Check.due("cancel(15) of sixteen", all.cancel(15), true);
    }

    private static void cancelEnded() {
        Check.sentence("cancel: false when .. it is ENDED");
        for (int outcome = 0; outcome <= 6; outcome++) {
            Check.due("cancel(0)", ended(outcome).cancel(0), false);
        }
        Check.due("cancel(0) at the limit", endedByTheLimit().cancel(0), false);
        FarLink x = new FarLink(1);
        x.put(0, 0, 0, true);
        Infos.turn(x, false, 0, Infos.down(0, Infos.FINISHED, 0, 1));
        x.run(1);
        Check.due("cancel(0) in the last tick before", x.cancel(0), true);
    }

    private static void cancelTwice() {
        Check.sentence("cancel: false when .. was cancelled before");
        FarLink x = filled(1);
        x.put(0, 2, 0, true);
        Check.due("cancel(0)", x.cancel(0), true);
        Check.due("cancel(0) again", x.cancel(0), false);
        x.run(1);
        Check.due("cancel(0) after CANCEL was sent", x.cancel(0), false);
        x.suspend(0, true);
        Check.due("cancel(0) while SUSPENDED", x.cancel(0), false);
        x.suspend(0, false);
        x.run(20);
        Check.due("cancelled, outcome", x.outcome(false, 0), 13);
        Check.due("cancel(0) when ENDED", x.cancel(0), false);
    }

    private static void suspendNone() {
        Check.sentence("suspend: false when there is none");
        FarLink x = new FarLink(1);
        Check.due("suspend(0, true), no put", x.suspend(0, true), false);
        x.put(0, 1, 0, true);
        x.put(0, 1, 0, true);
        for (int t : new int[] {-1, 2, 3, 15, 16, 17, MIN, MAX}) {
            Check.due("suspend(" + t + ", true) of two", x.suspend(t, true), false);
            Check.due("suspend(" + t + ", false) of two", x.suspend(t, false), false);
        }
        Check.due("suspend(1, true) of two", x.suspend(1, true), true);
        Check.due("suspend(0, true) of two", x.suspend(0, true), true);
        FarLink all = new FarLink(1);
        for (int t = 0; t < 16; t++) {
            all.put(0, 1, 0, true);
        }
        Check.due("suspend(16, true) of sixteen", all.suspend(16, true), false);
        Check.due("suspend(15, true) of sixteen", all.suspend(15, true), true);
    }

    private static void suspendEnded() {
        Check.sentence("suspend: false when .. it is ENDED");
        for (int outcome = 0; outcome <= 6; outcome++) {
            Check.due("suspend(0, true)", ended(outcome).suspend(0, true), false);
            Check.due("suspend(0, false)", ended(outcome).suspend(0, false), false);
        }
        Check.due("suspend(0, true) at the limit", endedByTheLimit().suspend(0, true), false);
        Check.due("suspend(0, false) at the limit", endedByTheLimit().suspend(0, false), false);
        FarLink x = new FarLink(1);
        x.put(0, 0, 0, true);
        Infos.turn(x, false, 0, Infos.down(0, Infos.FINISHED, 0, 1));
        x.run(1);
        Check.due("suspend(0, true) in the last tick before", x.suspend(0, true), true);
        x.run(1);
        Check.due("ENDED while SUSPENDED, suspend(0, false)", x.suspend(0, false), false);
        Check.due("ENDED while SUSPENDED, suspend(0, true)", x.suspend(0, true), false);
    }

    private static void suspendSoAlready() {
        Check.sentence("suspend: false when .. is so already");
        FarLink x = new FarLink(1);
        x.put(0, 1, 0, true);
        Check.due("not at first", x.suspend(0, false), false);
        Check.due("on", x.suspend(0, true), true);
        Check.due("on again", x.suspend(0, true), false);
        Check.due("off", x.suspend(0, false), true);
        Check.due("off again", x.suspend(0, false), false);
        Check.due("on once more", x.suspend(0, true), true);
        x.run(30);
        Check.due("on still", x.suspend(0, true), false);
        Check.due("nothing was sent", x.sent(true), 0);
        Check.due("cancelled and on still", x.cancel(0) && !x.suspend(0, true), true);
    }

    // Promise 6.

    private static void noiseTwice() {
        Check.sentence("noise: a bit turned twice is as it was");
        for (long mask : new long[] {1, 3, 1L << 62, -1L, 0x5A5A5A5A5A5A5A5AL}) {
            FarLink x = new FarLink(1);
            x.put(0, 0, 0, true);
            for (int i = 0; i < 4; i++) {
                x.noise(true, mask);
                x.noise(false, mask);
            }
            x.run(2);
            Check.due("four times, up", x.faults(true), 0);
            Check.due("four times, METADATA is heard", x.missing(0), 0x2FFFF);
            Check.due("four times, down", x.faults(false), 0);
        }
        FarLink y = new FarLink(1);
        y.put(0, 0, 0, true);
        y.noise(true, 6);
        y.noise(true, 3);
        y.noise(true, 1);
        y.run(2);
        Check.due("bits 0 and 1 twice, bit 2 once: mended", y.faults(true), 65536);
    }

    private static void noiseOfAllBits() {
        Check.sentence("noise: .. that are 1 in the mask (all bits of a block)");
        long metadata = Codes.encode(true, Infos.past(Infos.METADATA, 0, 0, 0));
        for (long block : new long[] {0, -1L >>> 1}) {
            FarLink x = new FarLink(1);
            x.put(0, 0, 0, true);
            x.noise(true, metadata ^ block);
            x.noise(true, Long.MIN_VALUE);
            x.run(2);
            boolean spoilt = Codes.decode(true, block) < 0;
            Check.due("up, block " + block, x.faults(true), spoilt ? 1 : Codes.isBlock(true, block) ? 0 : 65536);
        }
        // 15 times the same symbol is a code block: EXPECTED 15, LOCKED and AGAIN.
        FarLink y = new FarLink(1);
        y.noise(false, -1L);
        y.run(2);
        Check.due("down, all bits, faults", y.faults(false), 0);
        Check.due("down, all bits, alerts()", y.alerts(), 1);
        Check.due("down, all bits, window()", y.window(), 1);
    }

    private static void noiseOfTheNextAlone() {
        Check.sentence("noise: Turns the bits of the next block sent up, or down");
        FarLink x = new FarLink(1);
        x.put(0, 4, 0, true);
        x.noise(true, 3);
        x.run(4);
        Check.due("up, the first block alone", x.faults(true), 1);
        Check.due("down, none", x.faults(false), 0);
        x.noise(false, 0x112);
        x.run(4);
        Check.due("down, one block alone", x.faults(false), 1);
        Check.due("up, no more", x.faults(true), 1);
        FarLink y = new FarLink(1);
        y.noise(true, 3);
        y.run(100);
        Check.due("no block is sent: it waits", y.faults(true), 0);
        y.put(0, 1, 0, true);
        y.run(3);
        Check.due("for the next block that is sent", y.faults(true), 1);
        FarLink z = new FarLink(1);
        z.put(0, 4, 0, true);
        z.noise(true, 0);
        z.noise(false, 0);
        z.run(3);
        Check.due("a mask without bits, up", z.faults(true), 0);
        Check.due("a mask without bits, down", z.faults(false), 0);
    }

    private static void noiseInAnOutage() {
        Check.sentence("NOISE turns bits of the next block that is sent that way (also one in an outage).");
        FarLink x = new FarLink(1);
        x.put(0, 4, 0, true);
        x.outage(true, 1);
        x.noise(true, 3);
        x.outage(false, 1);
        x.noise(false, 0x112);
        x.run(4);
        Check.due("up, the block in the outage took it", x.faults(true), 0);
        Check.due("down, the block in the outage took it", x.faults(false), 0);
        Check.due("up, the others are heard", x.missing(0), 0x3FFFC);
    }

    private static void noiseAboveABlock() {
        Check.sentence("Of longs the lowest 63 bits (up) or 60 bits (down) of a block are looked at (noise)");
        for (int bit = 59; bit < 64; bit++) {
            FarLink x = new FarLink(1);
            x.put(0, 4, 0, true);
            x.noise(true, 1L << bit);
            x.noise(false, 1L << bit);
            x.run(2);
            Check.due("bit " + bit + " up", x.faults(true), bit <= 62 ? 65536 : 0);
            Check.due("bit " + bit + " down", x.faults(false), bit <= 59 ? 65536 : 0);
        }
        FarLink y = new FarLink(1);
        y.put(0, 0, 0, true);
        y.noise(true, Long.MIN_VALUE | 1L << 62);
        y.noise(false, 15L << 60 | 15L << 56 | 15L << 52);
        y.run(2);
        Check.due("bits 62 and 63 up: one counts", y.faults(true), 65536);
        Check.due("METADATA is heard", y.missing(0), 0x2FFFF);
        Check.due("three symbols down: two count", y.faults(false), 65536);
    }

    // Promise 7.

    /** Sixteen files past the order: a block goes up in each of the ticks 1 to 288. */
    private static FarLink busy() {
        FarLink x = new FarLink(1);
        for (int t = 0; t < 16; t++) {
            x.put(0, 16, 0, true);
        }
        return x;
    }

    private static void ticks(FarLink x, int n) {
        for (int left = n; left > 0; left -= 100) {
            x.run(Math.min(left, 100));
        }
    }

    /** Whether the block of the next tick is heard: it is spoilt, and that is seen only if it is. */
    private static void nextIsHeard(String what, FarLink x, boolean up, boolean want) {
        int before = x.faults(up);
        x.noise(up, up ? 3 : 0x112);
        x.run(2);
        Check.due(what, x.faults(up) - before, want ? 1 : 0);
    }

    private static void outageOfSoMany() {
        Check.sentence("The next n (0 .. 200) blocks sent up, or down, are in an outage");
        for (boolean up : new boolean[] {true, false}) {
            for (int n : new int[] {0, 1, 2, 199, 200}) {
                FarLink x = busy();
                Check.due("outage(" + up + ", " + n + ")", x.outage(up, n), true);
                ticks(x, n);
                nextIsHeard("the next after " + n, x, up, true);
                if (n > 0) {
                    FarLink y = busy();
                    y.outage(up, n);
                    ticks(y, n - 1);
                    nextIsHeard("the last of " + n, y, up, false);
                    nextIsHeard("none after it", y, up, true);
                }
            }
        }
    }

    private static void outageWhateverBefore() {
        Check.sentence("none after them (whatever was told before)");
        for (boolean up : new boolean[] {true, false}) {
            FarLink x = busy();
            x.outage(up, 200);
            x.outage(up, 1);
            nextIsHeard("200, then 1: the first", x, up, false);
            nextIsHeard("200, then 1: the third", x, up, true);
            FarLink y = busy();
            y.outage(up, 200);
            y.run(3);
            y.outage(up, 0);
            nextIsHeard("200, then 0", y, up, true);
            FarLink z = busy();
            z.outage(up, 3);
            z.run(2);
            z.outage(up, 3);
            z.run(2);
            nextIsHeard("3, then 3 after two: the last", z, up, false);
            nextIsHeard("3, then 3 after two: none after", z, up, true);
            FarLink other = busy();
            other.outage(!up, 200);
            nextIsHeard("the other way", other, up, true);
        }
    }

    private static void outageOutside() {
        Check.sentence("outage: false for another n");
        FarLink x = new FarLink(1);
        for (int n : new int[] {-1, 201, 202, -200, 256, MIN, MAX}) {
            Check.due("outage(true, " + n + ")", x.outage(true, n), false);
            Check.due("outage(false, " + n + ")", x.outage(false, n), false);
        }
    }

    // Promises 8 and 9.

    private static void runInside() {
        Check.sentence("Makes n (0 .. 100) ticks.");
        FarLink x = new FarLink(3);
        Check.due("time() at first", x.time(), 0);
        int time = 0;
        for (int n : new int[] {0, 1, 2, 99, 100, 0}) {
            Check.due("run(" + n + ")", x.run(n), 0);
            time += n;
            Check.due("time() after run(" + n + ")", x.time(), time);
            Check.due("a block a tick down", x.sent(false), time);
        }
    }

    private static void runOutside() {
        Check.sentence("run: -1 for another n");
        FarLink x = new FarLink(1);
        for (int n : new int[] {-1, 101, 102, -100, 128, MIN, MAX}) {
            Check.due("run(" + n + ")", x.run(n), -1);
            Check.due("time() after run(" + n + ")", x.time(), 0);
            Check.due("sent(false) after run(" + n + ")", x.sent(false), 0);
        }
    }

    private static void runCounts() {
        Check.sentence("Answers how many transactions became ENDED and records became CLOSED in them, by whatever way");
        FarLink x = new FarLink(1);
        x.put(0, 0, 0, true);
        // EOF in tick 2; FINISHED in tick 4, heard in 5; DONE in 5, heard in 6.
        int[] answers = {0, 0, 0, 0, 1, 1, 0, 0};
        for (int i = 0; i < answers.length; i++) {
            Check.due("tick " + (i + 1), x.run(1), answers[i]);
        }
        Check.due("no ticks", x.run(0), 0);
        FarLink all = new FarLink(1);
        for (int t = 0; t < 16; t++) {
            all.put(0, 0, 0, true);
        }
        Check.due("all of sixteen", all.run(100), 32);
        Check.due("no more", all.run(100), 0);
        FarLink cancelled = new FarLink(1);
        cancelled.put(0, 5, 0, true);
        cancelled.cancel(0);
        Check.due("cancelled", cancelled.run(20), 2);
        FarLink limit = new FarLink(1);
        limit.put(0, 0, 0, true);
        limit.outage(true, 200);
        Check.due("ENDED with 3, not yet", limit.run(97), 0);
        Check.due("ENDED with 3", limit.run(1), 1);
        // The record ENDING in tick 3 is CLOSED in tick 98 by its clock; the ground ENDED in 98 by its own.
        FarLink both = new FarLink(1);
        both.put(0, 0, 0, true);
        both.outage(false, 200);
        Check.due("both in one tick, not yet", both.run(97), 0);
        Check.due("both in one tick", both.run(1), 2);
        Check.due("both in one tick, outcome(false, 0)", both.outcome(false, 0), 11);
        Check.due("both in one tick, outcome(true, 0)", both.outcome(true, 0), 9);
        // METADATA is heard in tick 2, and nothing after it: CLOSED with 4 in tick 97.
        FarLink idle = new FarLink(1);
        idle.put(0, 0, 0, true);
        idle.run(1);
        idle.outage(true, 200);
        idle.outage(false, 200);
        Check.due("CLOSED with 4, not yet", idle.run(95), 0);
        Check.due("CLOSED with 4", idle.run(1), 1);
        Check.due("CLOSED with 4, outcome(true, 0)", idle.outcome(true, 0), 12);
    }

    // Promises 10 to 13.

    /** Records 0 and 15 have the words 0 and 15: file 0 is 10, 20, .. */
    private static FarLink firstAndLast() {
        FarLink x = filled(1);
        for (int t = 0; t < 16; t++) {
            x.put(0, 16, 3, true);
            x.suspend(t, t != 0 && t != 15);
        }
        x.run(80);
        return x;
    }

    private static void outcomeEdges() {
        Check.sentence("outcome: -1 when there is none");
        FarLink x = firstAndLast();
        Check.due("outcome(false, 0)", x.outcome(false, 0), 9);
        Check.due("outcome(false, 15)", x.outcome(false, 15), 9);
        Check.due("outcome(true, 0)", x.outcome(true, 0), 9);
        Check.due("outcome(true, 15)", x.outcome(true, 15), 9);
        Check.due("outcome(false, 1)", x.outcome(false, 1), 0);
        Check.due("outcome(true, 1)", x.outcome(true, 1), -1);
        Check.due("outcome(true, 14)", x.outcome(true, 14), -1);
        for (int t : new int[] {-1, 16, 17, 32, -16, MIN, MAX}) {
            Check.due("outcome(false, " + t + ")", x.outcome(false, t), -1);
            Check.due("outcome(true, " + t + ")", x.outcome(true, t), -1);
        }
    }

    private static void takenEdges() {
        Check.sentence("taken: 0 when it was not taken or there is none (no such record, transaction or word)");
        FarLink x = firstAndLast();
        for (int t : new int[] {0, 15}) {
            for (int k : new int[] {0, 1, 14, 15}) {
                Check.due("taken(" + t + ", " + k + ")", x.taken(t, k), 10 * (k + 1));
            }
            for (int k : NO_WORDS) {
                Check.due("taken(" + t + ", " + k + ")", x.taken(t, k), 0);
            }
        }
        for (int t : new int[] {1, 14, -1, 16, 17, -16, MIN, MAX}) {
            Check.due("taken(" + t + ", 0)", x.taken(t, 0), 0);
            Check.due("taken(" + t + ", 15)", x.taken(t, 15), 0);
        }
        FarLink y = filled(1);
        y.put(0, 3, 0, true);
        y.run(3);
        Check.due("word 0 was taken", y.taken(0, 0), 10);
        Check.due("word 1 was not taken yet", y.taken(0, 1), 0);
        y.run(1);
        Check.due("word 1 was taken", y.taken(0, 1), 20);
    }

    private static void missingEdges() {
        Check.sentence("missing: bit k for word k (0 .. 15, whatever its length is), bit 16 for METADATA, "
            + "bit 17 for EOF; -1 when there is no record");
        FarLink x = firstAndLast();
        Check.due("missing(0)", x.missing(0), 0);
        Check.due("missing(15)", x.missing(15), 0);
        for (int t : new int[] {1, 14, -1, 16, 17, -16, MIN, MAX}) {
            Check.due("missing(" + t + ")", x.missing(t), -1);
        }
        for (int length : new int[] {0, 1, 15, 16}) {
            FarLink y = filled(1);
            y.put(0, length, 0, true);
            y.run(60);
            Check.due("length " + length + ", missing(0)", y.missing(0), 0xFFFF & -1 << length);
        }
        FarLink z = filled(1);
        z.put(0, 2, 0, true);
        int[] ticks = {-1, 0x2FFFF, 0x2FFFE, 0x2FFFC, 0xFFFC, 0xFFFC};
        for (int i = 0; i < ticks.length; i++) {
            z.run(1);
            Check.due("tick " + (i + 1) + ", missing(0)", z.missing(0), ticks[i]);
        }
        FarLink all = filled(1);
        all.put(0, 2, 0, true);
        all.cancel(0);
        all.run(2);
        Check.due("made by CANCEL, missing(0)", all.missing(0), 0x3FFFF);
    }

    private static void storedEdges() {
        Check.sentence("stored: its length for k = -1; 0 when there is no such word (or file, also for k = -1)");
        for (int length : new int[] {0, 1, 2, 15, 16}) {
            for (int name : new int[] {0, 3}) {
                FarLink x = filled(1);
                x.put(0, length, name, true);
                x.run(30);
                Check.due("length " + length + ", k -1", x.stored(name, -1), length);
                for (int k : new int[] {0, 1, 2, 14, 15}) {
                    Check.due("length " + length + ", k " + k, x.stored(name, k), k < length ? 10 * (k + 1) : 0);
                }
                for (int k : new int[] {-2, -3, 16, 17, -16, MIN, MAX}) {
                    Check.due("length " + length + ", k " + k, x.stored(name, k), 0);
                }
                for (int none : new int[] {3 - name, 1, 2, -1, 4, 5, -4, MIN, MAX}) {
                    Check.due("no file " + none + ", k -1", x.stored(none, -1), 0);
                    Check.due("no file " + none + ", k 0", x.stored(none, 0), 0);
                }
            }
        }
    }

    private static void storedShorter() {
        Check.sentence("stored: 0 when there is no such word (of a file that was longer before)");
        FarLink x = filled(1);
        x.put(0, 16, 1, true);
        x.run(30);
        for (int length : new int[] {15, 1, 0}) {
            x.put(0, length, 1, true);
            x.run(30);
            Check.due("length", x.stored(1, -1), length);
            for (int k = 0; k < 16; k++) {
                Check.due("length " + length + ", k " + k, x.stored(1, k), k < length ? 10 * (k + 1) : 0);
            }
        }
    }

    // Promises 17 and 18.

    private static void sentInAnOutage() {
        Check.sentence("sent: How many blocks were sent up, or down (in an outage, too)");
        FarLink x = new FarLink(1);
        Check.due("up, none yet", x.sent(true), 0);
        Check.due("down, none yet", x.sent(false), 0);
        x.put(0, 16, 0, true);
        x.outage(true, 5);
        x.outage(false, 7);
        for (int tick = 1; tick <= 18; tick++) {
            x.run(1);
            Check.due("up, tick " + tick, x.sent(true), tick);
            Check.due("down, tick " + tick, x.sent(false), tick);
        }
    }

    private static void faultsOfWhatIsHeard() {
        Check.sentence("faults: How many blocks that were heard .. were SPOILT, "
            + "plus 65536 times how many were no code blocks but could be decoded");
        for (boolean up : new boolean[] {true, false}) {
            FarLink x = busy();
            int faults = 0;
            long[] masks = {0, 1, up ? 3 : 0x112, 1L << (up ? 62 : 59), 0, up ? 1 | 1L << 62 : 0x112L << 48, 1L << 6};
            int[] each = {0, 65536, 1, 65536, 0, 1, 65536};
            for (int i = 0; i < masks.length; i++) {
                x.noise(up, masks[i]);
                x.run(1);
                Check.due("block " + i + " is not heard yet", x.faults(up), faults);
                x.run(1);
                faults += each[i];
                Check.due("block " + i + " is heard", x.faults(up), faults);
            }
            Check.due("the other way", x.faults(!up), 0);
            x.outage(up, 2);
            x.noise(up, masks[2]);
            x.run(1);
            x.noise(up, 1);
            x.run(2);
            Check.due("in an outage", x.faults(up), faults);
            Infos.turn(x, up, 0, 1);
            x.run(2);
            Check.due("turned into another code block", x.faults(up), faults);
        }
    }

    public static void main(String[] args) {
        delay();
        filesOfZeros();
        emptyStore();
        noTransactions();
        writeInside();
        writeOutside();
        putInside();
        putOutside();
        putSixteen();
        cancelNone();
        cancelEnded();
        cancelTwice();
        suspendNone();
        suspendEnded();
        suspendSoAlready();
        noiseTwice();
        noiseOfAllBits();
        noiseOfTheNextAlone();
        noiseInAnOutage();
        noiseAboveABlock();
        outageOfSoMany();
        outageWhateverBefore();
        outageOutside();
        runInside();
        runOutside();
        runCounts();
        outcomeEdges();
        takenEdges();
        missingEdges();
        storedEdges();
        storedShorter();
        sentInAnOutage();
        faultsOfWhatIsHeard();
        Check.end();
    }
}
