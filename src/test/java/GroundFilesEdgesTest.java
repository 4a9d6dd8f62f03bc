/** The boundary cases of "The ground's files", each sentence by a test of its own; their clocks have ClocksEdgesTest. */
public final class GroundFilesEdgesTest {
    private static final int MIN = Integer.MIN_VALUE;
    private static final int MAX = Integer.MAX_VALUE;
    private static final int UNDER_WAY = 0;
    private static final int ENDED = 8;
    private static final long NONE = Infos.NONE;

    /** File 0: 10, 20, 30, .. */
    private static LoneGround ground() {
        LoneGround g = new LoneGround(1);
        for (int k = 0; k < 16; k++) {
            g.link.write(0, k, 10 * (k + 1));
        }
        return g;
    }

    /** The first transaction, past the order, under the name 2. */
    private static LoneGround putting(int length) {
        LoneGround g = ground();
        g.link.put(0, length, 2, true);
        return g;
    }

    /** So long after the put that all of it has been sent, and EOF is not yet due again. */
    private static LoneGround sent(int length) {
        LoneGround g = putting(length);
        g.pass(length + 2);
        return g;
    }

    private static LoneGround cancelled(LoneGround g) {
        g.link.cancel(0);
        return g;
    }

    private static LoneGround suspended(LoneGround g, boolean on) {
        g.link.suspend(0, on);
        return g;
    }

    private static long metadata(int length) {
        return Infos.past(Infos.METADATA, 0, length, 2);
    }

    private static long data(int k) {
        return Infos.past(Infos.DATA, 0, k, 10 * (k + 1));
    }

    private static long eof(int length) {
        return Infos.past(Infos.EOF, 0, length, 5 * length * (length + 1));
    }

    private static long cancel(int t) {
        return Infos.past(Infos.CANCEL, t, 0, 0);
    }

    private static long done(int t) {
        return Infos.past(Infos.DONE, t, 0, 0);
    }

    private static long got(int t) {
        return Infos.down(0, Infos.GOT, t, 0);
    }

    private static long lack(int mask) {
        return Infos.down(0, Infos.LACK, 0, mask);
    }

    private static long finished(int t, int mask) {
        return Infos.down(0, Infos.FINISHED, t, mask);
    }

    private static void outcome(String what, LoneGround g, int t, int want) {
        Check.due(what + ", outcome(false, " + t + ")", g.link.outcome(false, t), want);
    }

    private static void dueAtAPut() {
        Check.sentence("At a put METADATA, all DATA and EOF are DUE");
        LoneGround.sends("length 0", () -> putting(0), metadata(0), eof(0), NONE);
        LoneGround.sends("length 1", () -> putting(1), metadata(1), data(0), eof(1), NONE);
        LoneGround.sends("length 2", () -> putting(2), metadata(2), data(0), data(1), eof(2), NONE);
        long[] fifteen = new long[18];
        long[] sixteen = new long[19];
        fifteen[0] = metadata(15);
        sixteen[0] = metadata(16);
        for (int k = 0; k < 16; k++) {
            fifteen[k + 1] = k < 15 ? data(k) : eof(15);
            sixteen[k + 1] = data(k);
        }
        fifteen[17] = NONE;
        sixteen[17] = eof(16);
        sixteen[18] = NONE;
        LoneGround.sends("length 15", () -> putting(15), fifteen);
        LoneGround.sends("length 16", () -> putting(16), sixteen);
    }

    private static LoneGround withWords(int first, int second) {
        LoneGround g = new LoneGround(1);
        g.link.write(3, 0, first);
        g.link.write(3, 1, second);
        g.link.write(3, 2, 1);
        g.link.put(3, 2, 3, true);
        g.pass(3);
        return g;
    }

    private static void checksumWraps() {
        Check.sentence("CHECKSUM: the wrapped sum of the words");
        int[][] sums = {{MAX, 1, MIN}, {MIN, -1, MAX}, {MIN, MIN, 0}, {MAX, MAX, -2}, {-1, 0, -1}, {0, 0, 0}};
        for (int[] sum : sums) {
            LoneGround.sends("the first two of three words", () -> withWords(sum[0], sum[1]),
                Infos.past(Infos.EOF, 0, 2, sum[2]));
        }
    }

    private static void wordsAsAtThePut() {
        Check.sentence("A TRANSACTION has its words (as they were at the put)");
        LoneGround.sends("written after the put", () -> {
            LoneGround g = putting(2);
            g.link.write(0, 0, 5);
            g.pass(1);
            g.link.write(0, 1, 6);
            return g;
        }, data(0), data(1), eof(2));
        LoneGround.sends("sent again", () -> {
            LoneGround g = sent(2);
            g.link.write(0, 0, 5);
            g.link.write(0, 1, 6);
            return g.isToHear(lack(3));
        }, data(0), data(1), NONE);
    }

    private static void cancelTakesEofsPlace() {
        Check.sentence("cancel makes CANCEL due (it takes EOF's place from then on), and nothing else is due then");
        LoneGround.sends("at once", () -> cancelled(putting(2)), cancel(0), NONE);
        LoneGround.sends("before EOF", () -> {
            LoneGround g = putting(2);
            g.pass(2);
            return cancelled(g);
        }, cancel(0), NONE);
        LoneGround.sends("after EOF", () -> cancelled(sent(2)), cancel(0), NONE);
        // CANCEL goes in tick 1, and 24 ticks after that again.
        LoneGround.sendsAfter("from then on, not yet", () -> cancelled(putting(2)), 23, NONE);
        LoneGround.sendsAfter("from then on", () -> cancelled(putting(2)), 24, cancel(0));
        LoneGround.sends("after a LACK", () -> cancelled(sent(2).hears(lack(0x10003))), cancel(0), NONE);
        LoneGround.sends("SUSPENDED", () -> suspended(cancelled(suspended(putting(1), true)), false), cancel(0), NONE);
        LoneGround.sends("still SUSPENDED", () -> cancelled(suspended(putting(1), true)), NONE, NONE);
    }

    private static void gotLeavesWhatIsDue() {
        Check.sentence("GOT: if UNDER WAY, it is ANSWERED (what is due stays due).");
        LoneGround.sends("words and EOF are due", () -> putting(3).hears(got(0)), data(1), data(2), eof(3), NONE);
        LoneGround ended = sent(0).hears(finished(0, 1)).hears(got(0));
        outcome("ENDED stays so", ended, 0, ENDED + 1);
    }

    private static void lackBelowTheLength() {
        Check.sentence("LACK: .. METADATA is due if bit 16 is set, and the words below the length whose bits are set");
        int all = 0xFFFFFF;
        LoneGround.sends("length 0, all bits", () -> sent(0).isToHear(lack(all)), metadata(0), NONE);
        LoneGround.sends("length 1, all bits", () -> sent(1).isToHear(lack(all)), metadata(1), data(0), NONE);
        LoneGround.sends("length 2, all bits", () -> sent(2).isToHear(lack(all)), metadata(2), data(0), data(1), NONE);
        LoneGround.sends("length 1, bit 1", () -> sent(1).isToHear(lack(2)), NONE);
        LoneGround.sends("length 2, bit 1", () -> sent(2).isToHear(lack(2)), data(1), NONE);
        LoneGround.sends("length 15, bits 14 and 15", () -> sent(15).isToHear(lack(0xC000)), data(14), NONE);
        LoneGround.sends("length 16, bits 14 and 15", () -> sent(16).isToHear(lack(0xC000)), data(14), data(15), NONE);
        LoneGround.sends("bit 16 alone", () -> sent(16).isToHear(lack(0x10000)), metadata(16), NONE);
        LoneGround.sends("bits 17 .. 23", () -> sent(16).isToHear(lack(0xFE0000)), NONE);
        LoneGround.sends("no bit", () -> sent(16).isToHear(lack(0)), NONE);
    }

    private static void lackOnlyUnderWay() {
        Check.sentence("LACK: if UNDER WAY and not cancelled");
        int all = 0x1FFFF;
        LoneGround.sends("cancelled", () -> {
            LoneGround g = cancelled(sent(2));
            g.pass(1);
            return g.isToHear(lack(all));
        }, NONE, NONE);
        LoneGround.sends("ENDED", () -> sent(2).hears(finished(0, 1)).isToHear(lack(all)), NONE, NONE);
        LoneGround.sends("SUSPENDED, and no more",
            () -> suspended(suspended(sent(2), true).hears(lack(all)), false), metadata(2), data(0), data(1), NONE);
    }

    private static void finishedEnds() {
        Check.sentence("FINISHED: DONE is due, and if it is UNDER WAY it is ENDED with the condition (mask) as outcome");
        for (int mask : new int[] {0, 1, 5, 6, 0x800000, 0xFFFFFF}) {
            LoneGround g = sent(2).isToHear(finished(0, mask));
            outcome("not yet, mask " + mask, g, 0, UNDER_WAY);
            Check.due("run answers it", g.pass(1), 1);
            outcome("mask " + mask, g, 0, ENDED + mask);
            g.isToHear(finished(0, 3));
            Check.due("run answers no second one", g.pass(1), 0);
            outcome("the first one counts", g, 0, ENDED + mask);
        }
        LoneGround.sends("DONE", () -> sent(2).isToHear(finished(0, 1)), done(0), NONE);
        LoneGround.sends("DONE again, when ENDED",
            () -> sent(2).hears(finished(0, 1)).isToHear(finished(0, 1)), done(0), NONE);
        LoneGround.sends("cancelled", () -> {
            LoneGround g = cancelled(sent(2));
            g.pass(1);
            return g.isToHear(finished(0, 5));
        }, done(0), NONE);
    }

    private static void nothingButDone() {
        Check.sentence("FINISHED: .. and nothing but DONE is due.");
        LoneGround.sends("words and EOF were due", () -> putting(3).isToHear(finished(0, 1)), done(0), NONE);
        LoneGround.sends("CANCEL was due",
            () -> suspended(cancelled(putting(3)), true).isToHear(finished(0, 1)), done(0), NONE);
        LoneGround.sends("METADATA and words were due",
            () -> suspended(sent(3), true).hears(lack(0x10007)).isToHear(finished(0, 1)), done(0), NONE);
    }

    private static void endedIsNotSuspended() {
        Check.sentence("Of an ENDED one nothing but DONE stays due, and it is not SUSPENDED.");
        LoneGround.sends("SUSPENDED, FINISHED", () -> suspended(sent(1), true).isToHear(finished(0, 1)), done(0), NONE);
        LoneGround g = suspended(sent(1), true).hears(finished(0, 1));
        Check.due("suspend(0, false)", g.link.suspend(0, false), false);
        // GOT in tick 3: ENDED with 4 in tick 98, and then no LACK makes anything due.
        LoneGround.sends("ENDED with 4", () -> {
            LoneGround idle = sent(1).hears(got(0));
            idle.pass(95);
            outcome("ENDED with 4", idle, 0, ENDED + 4);
            return idle.isToHear(lack(0x10001));
        }, NONE, NONE);
    }

    private static void noSuchTransaction() {
        Check.sentence("A down block's PDU for a transaction that there is");
        for (int t = 1; t < 16; t++) {
            LoneGround g = sent(1).hears(finished(t, 1));
            outcome("FINISHED for " + t, g, 0, UNDER_WAY);
            outcome("FINISHED for " + t, g, t, -1);
            Check.due("FINISHED for " + t + ", alerts()", g.link.alerts(), 0);
            Check.due("FINISHED for " + t + ", put", g.link.put(0, 0, 0, true), 1);
            outcome("a put after FINISHED for " + t, g, 1, UNDER_WAY);
        }
        LoneGround all = ground();
        for (int t = 0; t < 16; t++) {
            all.link.put(0, 0, 0, true);
        }
        all.hears(finished(0, 1), finished(15, 2), finished(14, 3));
        int[] ended = {0, 15, 14};
        for (int i = 0; i < 3; i++) {
            outcome("of sixteen", all, ended[i], ENDED + 1 + i);
        }
        outcome("of sixteen", all, 1, UNDER_WAY);
        outcome("of sixteen", all, 13, UNDER_WAY);
    }

    private static void otherKinds() {
        Check.sentence("Kinds: 0 none, 1 GOT, 2 LACK, 3 FINISHED (no other kind down)");
        for (int kind : new int[] {0, 4, 5, 6, 7, 8, 9, 10, 11, 12, 13, 14, 15}) {
            long info = Infos.down(0, kind, 0, 0x1FFFF);
            outcome("kind " + kind, sent(2).hears(info), 0, UNDER_WAY);
            LoneGround.sends("kind " + kind, () -> sent(2).isToHear(info), NONE, NONE);
            // EOF goes in tick 4, and again in tick 28, for it is not ANSWERED.
            LoneGround.sendsAfter("kind " + kind + ", not ANSWERED", () -> sent(2).hears(info), 21, eof(2));
        }
    }

    private static void otherBits() {
        Check.sentence("THE INFO OF A DOWN BLOCK: .. others 0 (they are no part of a field)");
        long others = 3L << 6 | 15L << 40;
        outcome("FINISHED", sent(0).hears(finished(0, 0xFFFFFF) | others), 0, ENDED + 0xFFFFFF);
        outcome("FINISHED", sent(0).hears(finished(0, 0) | others), 0, ENDED);
        LoneGround g = sent(0).hears(others);
        outcome("none", g, 0, UNDER_WAY);
        Check.due("none, alerts()", g.link.alerts(), 0);
    }

    private static void spoilt() {
        Check.sentence("of a SPOILT block nothing further is used (down)");
        LoneGround g = sent(0);
        g.link.noise(false, 0x112);
        g.hears(finished(0, 1) | Infos.LOCKED);
        Check.due("SPOILT, faults", g.link.faults(false), 1);
        outcome("SPOILT", g, 0, UNDER_WAY);
        Check.due("SPOILT, alerts()", g.link.alerts(), 0);
        LoneGround h = sent(0);
        h.link.noise(false, 0xFFL << 52);
        h.hears(finished(0, 1) | Infos.LOCKED);
        Check.due("two symbols are mended, faults", h.link.faults(false), 65536);
        outcome("two symbols are mended", h, 0, ENDED + 1);
        Check.due("two symbols are mended, alerts()", h.link.alerts(), 1);
    }

    private static void suspendedSendsNothing() {
        Check.sentence("SUSPENDED (nothing of it is sent but frames that are MARKED)");
        LoneGround.sends("from the first on", () -> suspended(putting(1), true), NONE, NONE, NONE);
        LoneGround.sends("on the way", () -> suspended(putting(1).hears(Infos.report(0)), true), NONE, NONE);
        LoneGround.sends("and no more",
            () -> suspended(suspended(putting(1).hears(Infos.report(0)), true), false), eof(1), NONE);
        LoneGround.sends("the next one is sent", () -> {
            LoneGround g = suspended(putting(1), true);
            g.link.put(0, 0, 3, true);
            return g;
        }, Infos.past(Infos.METADATA, 1, 0, 3), Infos.past(Infos.EOF, 1, 0, 0), NONE);
    }

    private static void firstByNumber() {
        Check.sentence("the first transaction, by number, that is not SUSPENDED, has something due");
        LoneGround.sends("two", () -> {
            LoneGround g = putting(0);
            g.link.put(0, 0, 2, true);
            return g;
        }, metadata(0), eof(0), Infos.past(Infos.METADATA, 1, 0, 2), Infos.past(Infos.EOF, 1, 0, 0), NONE);
        LoneGround.sends("the first comes back", () -> {
            LoneGround g = putting(0);
            g.link.put(0, 2, 2, true);
            g.pass(2);
            return g.isToHear(lack(0x10000));
        }, metadata(0), Infos.past(Infos.DATA, 1, 0, 10));
        LoneGround.sends("the last of sixteen", () -> {
            LoneGround g = ground();
            for (int t = 0; t < 16; t++) {
                g.link.put(0, 0, 0, true);
                g.link.suspend(t, t < 15);
            }
            return g;
        }, Infos.past(Infos.METADATA, 15, 0, 0), Infos.past(Infos.EOF, 15, 0, 0), NONE);
    }

    private static void whatIsDueFirst() {
        Check.sentence("DONE before METADATA before DATA (the least word) before EOF or CANCEL, is sent and due no more");
        LoneGround.sends("METADATA again before words and EOF",
            () -> suspended(suspended(putting(2).hears(Infos.report(0)), true).hears(lack(0x10001)), false),
            metadata(2), data(0), data(1), eof(2), NONE);
        LoneGround.sends("the least word",
            () -> sent(16).isToHear(lack(1 << 15 | 1 << 7 | 1 << 8 | 1)), data(0), data(7), data(8), data(15), NONE);
        // EOF goes in tick 4 and is due again in tick 28, in which the LACK is heard.
        LoneGround.sends("words before EOF that is due again", () -> {
            LoneGround g = sent(2);
            g.pass(22);
            return g.isToHear(lack(2));
        }, data(1), eof(2), NONE);
    }

    private static void unusedIsZero() {
        Check.sentence("CANCEL, DONE (position and word 0). What is not used is 0.");
        LoneGround.sends("CANCEL", () -> cancelled(putting(16)), cancel(0));
        LoneGround.sends("DONE", () -> sent(16).isToHear(finished(0, 0xFFFFFF)), done(0));
        LoneGround.sends("METADATA past the order, number 0", () -> putting(16), metadata(16));
    }

    public static void main(String[] args) {
        dueAtAPut();
        checksumWraps();
        wordsAsAtThePut();
        cancelTakesEofsPlace();
        gotLeavesWhatIsDue();
        lackBelowTheLength();
        lackOnlyUnderWay();
        finishedEnds();
        nothingButDone();
        endedIsNotSuspended();
        noSuchTransaction();
        otherKinds();
        otherBits();
        spoilt();
        suspendedSendsNothing();
        firstByNumber();
        whatIsDueFirst();
        unusedIsZero();
        Check.end();
    }
}
