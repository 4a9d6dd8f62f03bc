/** The boundary cases of "The craft's frames" and promise 14, each sentence by a test of its own. */
public final class CraftFramesEdgesTest {
    private static final int RECORD = 3;
    private static final int POSITION = 5;
    private static final int WORD = 77;
    private static final long PDU = Infos.pdu(Infos.DATA, RECORD, POSITION, WORD);

    private static void report(String what, LoneCraft c, int want) {
        Check.due(what + ", report()", c.link.report(), want);
    }

    private static void givenOn(String what, LoneCraft c) {
        Check.due(what + ", missing", c.link.missing(RECORD), 0x3FFFF ^ 1 << POSITION);
        Check.due(what + ", taken", c.link.taken(RECORD, POSITION), WORD);
    }

    private static void notGivenOn(String what, LoneCraft c) {
        Check.due(what + ", missing", c.link.missing(RECORD), -1);
    }

    private static LoneCraft expecting(int expected) {
        return new LoneCraft(1).hears(Infos.set(expected));
    }

    private static LoneCraft expectingAgain(int expected) {
        return expecting(expected).hears(Infos.frame(0, expected + 1 & 15, PDU));
    }

    private static LoneCraft locked(int expected) {
        return expecting(expected).hears(Infos.frame(0, expected + 8 & 15, PDU));
    }

    private static LoneCraft lockedAgain(int expected) {
        return expectingAgain(expected).hears(Infos.frame(0, expected + 8 & 15, PDU));
    }

    private static void begin() {
        Check.sentence("EXPECTED is 0 at first, LOCKED and AGAIN are off.");
        LoneCraft c = new LoneCraft(1);
        report("at first", c, 0);
        c.hears(Infos.frame(0, 0, PDU));
        report("0 is expected", c, 1);
        givenOn("0 is expected", c);
    }

    private static void zeroAhead() {
        Check.sentence("0: EXPECTED grows by 1 (mod 16), AGAIN is off, the PDU is given on");
        for (int expected = 0; expected < 16; expected++) {
            LoneCraft c = expecting(expected).hears(Infos.frame(0, expected, PDU));
            report("expected " + expected, c, expected == 15 ? 0 : expected + 1);
            givenOn("expected " + expected, c);
            LoneCraft d = expectingAgain(expected).hears(Infos.frame(0, expected, PDU));
            report("AGAIN, expected " + expected, d, expected == 15 ? 0 : expected + 1);
            givenOn("AGAIN, expected " + expected, d);
        }
    }

    private static void oneToSevenAhead() {
        Check.sentence("1 .. 7: AGAIN is on");
        for (int expected = 0; expected < 16; expected++) {
            for (int x = 1; x <= 7; x++) {
                LoneCraft c = expecting(expected).hears(Infos.frame(0, expected + x & 15, PDU));
                report("expected " + expected + ", x " + x, c, expected + Infos.AGAIN);
                notGivenOn("expected " + expected + ", x " + x, c);
            }
        }
        LoneCraft d = expectingAgain(12).hears(Infos.frame(0, 3, PDU));
        report("on already", d, 12 + Infos.AGAIN);
    }

    private static void eightAhead() {
        Check.sentence("8: LOCKED is on");
        for (int expected = 0; expected < 16; expected++) {
            LoneCraft c = locked(expected);
            report("expected " + expected, c, expected + Infos.LOCKED);
            notGivenOn("expected " + expected, c);
        }
        LoneCraft d = lockedAgain(9);
        report("AGAIN stays", d, 9 + Infos.LOCKED + Infos.AGAIN);
        notGivenOn("AGAIN stays", d);
    }

    private static void nineToFifteenAhead() {
        Check.sentence("9 .. 15: nothing.");
        for (int expected = 0; expected < 16; expected++) {
            for (int x = 9; x <= 15; x++) {
                LoneCraft c = expecting(expected).hears(Infos.frame(0, expected + x & 15, PDU));
                report("expected " + expected + ", x " + x, c, expected);
                notGivenOn("expected " + expected + ", x " + x, c);
            }
        }
        for (int x = 9; x <= 15; x++) {
            LoneCraft d = expectingAgain(2).hears(Infos.frame(0, 2 + x & 15, PDU));
            report("AGAIN stays, x " + x, d, 2 + Infos.AGAIN);
        }
    }

    private static void lockedHearsNoFrame() {
        Check.sentence("Type 0: if LOCKED, nothing");
        for (int number = 0; number < 16; number++) {
            LoneCraft c = locked(6).hears(Infos.frame(0, number, PDU));
            report("number " + number, c, 6 + Infos.LOCKED);
            notGivenOn("number " + number, c);
        }
        LoneCraft d = lockedAgain(6).hears(Infos.frame(0, 6, PDU));
        report("AGAIN stays", d, 6 + Infos.LOCKED + Infos.AGAIN);
        notGivenOn("AGAIN stays", d);
    }

    private static void typeOne() {
        Check.sentence("Type 1: the PDU is given on.");
        for (int number : new int[] {0, 1, 7, 8, 9, 15}) {
            LoneCraft c = expecting(0).hears(Infos.frame(1, number, PDU));
            givenOn("number " + number, c);
            report("number " + number, c, 0);
            LoneCraft d = lockedAgain(4).hears(Infos.frame(1, number, PDU));
            givenOn("LOCKED, number " + number, d);
            report("LOCKED, number " + number, d, 4 + Infos.LOCKED + Infos.AGAIN);
        }
    }

    private static void unlock() {
        Check.sentence("UNLOCK: LOCKED and AGAIN are off.");
        for (int number : new int[] {0, 5, 8, 15}) {
            LoneCraft c = locked(5).hears(Infos.frame(2, number, PDU));
            report("LOCKED, number " + number, c, 5);
            notGivenOn("LOCKED, number " + number, c);
            report("AGAIN, number " + number, expectingAgain(5).hears(Infos.frame(2, number, PDU)), 5);
            report("both, number " + number, lockedAgain(5).hears(Infos.frame(2, number, PDU)), 5);
            report("neither, number " + number, expecting(5).hears(Infos.frame(2, number, PDU)), 5);
        }
        LoneCraft d = locked(5).hears(Infos.unlock(), Infos.frame(0, 5, PDU));
        report("frames are heard again", d, 6);
        givenOn("frames are heard again", d);
    }

    private static void set() {
        Check.sentence("SET: unless LOCKED, EXPECTED becomes the number and AGAIN is off.");
        for (int number = 0; number < 16; number++) {
            LoneCraft c = expectingAgain(6).hears(Infos.frame(3, number, PDU));
            report("number " + number, c, number);
            notGivenOn("number " + number, c);
            LoneCraft d = locked(6).hears(Infos.frame(3, number, PDU));
            report("LOCKED, number " + number, d, 6 + Infos.LOCKED);
            LoneCraft e = lockedAgain(6).hears(Infos.frame(3, number, PDU));
            report("LOCKED with AGAIN, number " + number, e, 6 + Infos.LOCKED + Infos.AGAIN);
        }
    }

    private static void otherTypes() {
        Check.sentence("other types are not looked at");
        for (int type = 4; type < 16; type++) {
            for (int number : new int[] {3, 4, 11, 12}) {
                String what = "type " + type + ", number " + number;
                LoneCraft c = expecting(3).hears(Infos.frame(type, number, PDU));
                report(what, c, 3);
                notGivenOn(what, c);
                LoneCraft d = lockedAgain(3).hears(Infos.frame(type, number, PDU));
                report("LOCKED, " + what, d, 3 + Infos.LOCKED + Infos.AGAIN);
                notGivenOn("LOCKED, " + what, d);
            }
        }
    }

    private static void spoilt() {
        Check.sentence("of a SPOILT block nothing further is used (up)");
        for (int bit : new int[] {1, 6, 7, 39, 62}) {
            LoneCraft c = expecting(3);
            c.link.noise(true, 1L | 1L << bit);
            c.hears(Infos.frame(0, 3, PDU));
            Check.due("SPOILT, faults", c.link.faults(true), 1);
            report("SPOILT", c, 3);
            notGivenOn("SPOILT", c);
            LoneCraft d = expecting(3);
            d.link.noise(true, 1L << bit);
            d.hears(Infos.frame(0, 3, PDU));
            Check.due("one bit is mended, faults", d.link.faults(true), 65536);
            report("one bit is mended", d, 4);
            givenOn("one bit is mended", d);
        }
    }

    private static void reportGoesDown() {
        Check.sentence("Step 3: a block with the report and the PDU that is owed (the report)");
        LoneCraft.sends("EXPECTED 15", () -> expecting(15), Infos.report(15));
        LoneCraft.sends("EXPECTED 0 after 15",
            () -> expecting(15).isToHear(Infos.frame(0, 15, 0)), Infos.report(0));
        LoneCraft.sends("LOCKED", () -> locked(7), Infos.report(7 + Infos.LOCKED));
        LoneCraft.sends("LOCKED, with a PDU",
            () -> locked(7).isToHear(Infos.past(Infos.CANCEL, 9, 0, 0)),
            Infos.down(7 + Infos.LOCKED, Infos.GOT, 9, 0),
            Infos.down(7 + Infos.LOCKED, Infos.FINISHED, 9, 5), Infos.report(7 + Infos.LOCKED));
    }

    private static void reportAnswer() {
        Check.sentence("report: EXPECTED, plus 16 if LOCKED, plus 32 if AGAIN.");
        report("the least", expecting(0), 0);
        report("the greatest EXPECTED", expecting(15), 15);
        report("the greatest of all", lockedAgain(15), 63);
    }

    public static void main(String[] args) {
        begin();
        zeroAhead();
        oneToSevenAhead();
        eightAhead();
        nineToFifteenAhead();
        lockedHearsNoFrame();
        typeOne();
        unlock();
        set();
        otherTypes();
        spoilt();
        reportGoesDown();
        reportAnswer();
        Check.end();
    }
}
