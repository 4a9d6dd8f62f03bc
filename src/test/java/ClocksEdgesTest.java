import java.util.function.Supplier;

/**
 * The clocks of the document, each sentence by a test of its own and for each delay: the last tick
 * before a clock runs out and the tick in which it does. A clock that is set before its step counts
 * the tick in which it is set: it runs out one tick earlier than one that is set after its step.
 */
public final class ClocksEdgesTest {
    private static final int OPEN = 0;
    private static final int UNDER_WAY = 0;
    private static final int FINAL = 8;
    private static final int[] OTHER_KINDS_UP = {0, 6, 7, 8, 9, 10, 11, 12, 13, 14, 15};
    private static final int[] OTHER_KINDS_DOWN = {0, 4, 5, 6, 7, 8, 9, 10, 11, 12, 13, 14, 15};
    private static final long NO_PDU = Infos.report(0);
    private static final long NONE = Infos.NONE;

    private static int span(int d) {
        return 2 * d + 6;
    }

    // The craft: record 3.

    private static long up(int kind, int position, int word) {
        return Infos.past(kind, 3, position, word);
    }

    private static long got() {
        return Infos.down(0, Infos.GOT, 3, 0);
    }

    private static long lack(int mask) {
        return Infos.down(0, Infos.LACK, 3, mask);
    }

    private static long finished(int condition) {
        return Infos.down(0, Infos.FINISHED, 3, condition);
    }

    private static void outcome(String what, LoneCraft c, int want) {
        Check.due(what + ", outcome(true, 3)", c.link.outcome(true, 3), want);
    }

    /** In the tick before the last the record is still as it was; in the last it becomes CLOSED. */
    private static void closesIn(String what, LoneCraft c, int ticks, int before, int after) {
        Check.due(what + ", not yet, run", c.pass(ticks - 1), 0);
        outcome(what + ", not yet", c, before);
        Check.due(what + ", run", c.pass(1), 1);
        outcome(what, c, after);
    }

    private static void craftIdle(int d) {
        Check.sentence("OPEN: IDLE goes down; if it runs out, the record is CLOSED with condition 4.");
        int idle = 12 * span(d);
        closesIn("by DATA", new LoneCraft(d).hears(up(Infos.DATA, 0, 1)), idle - 1, OPEN, FINAL + 4);
        closesIn("by METADATA", new LoneCraft(d).hears(up(Infos.METADATA, 0, 0)), idle - 1, OPEN, FINAL + 4);
        closesIn("by EOF that is not taken", new LoneCraft(d).hears(up(Infos.EOF, 17, 0)), idle - 1, OPEN, FINAL + 4);
    }

    private static void craftIdleSetByEachKind(int d) {
        Check.sentence("While it is OPEN every PDU of kind 1 to 5 sets its IDLE clock to 12T");
        int idle = 12 * span(d);
        long[] each = {up(Infos.METADATA, 16, 0), up(Infos.METADATA, 17, 9), up(Infos.DATA, 0, 1), up(Infos.DATA, 1, 1),
            up(Infos.DATA, 16, 1), up(Infos.EOF, 16, 0), up(Infos.EOF, 17, 0), up(Infos.DONE, 0, 0)};
        for (int i = 0; i < each.length; i++) {
            LoneCraft c = new LoneCraft(d).hears(up(Infos.DATA, 0, 1)).hearsIn(idle - 1, each[i]);
            outcome("PDU " + i + ", heard in the last tick", c, OPEN);
            closesIn("PDU " + i, c, idle - 1, OPEN, FINAL + 4);
        }
        LoneCraft cancelled = new LoneCraft(d).hears(up(Infos.DATA, 0, 1)).hearsIn(idle - 1, up(Infos.CANCEL, 0, 0));
        outcome("CANCEL, heard in the last tick", cancelled, 5);
        LoneCraft late = new LoneCraft(d).hears(up(Infos.DATA, 0, 1)).hearsIn(idle, up(Infos.DATA, 1, 1));
        outcome("heard a tick too late", late, FINAL + 4);
        Check.due("heard a tick too late, missing", late.link.missing(3), 0x3FFFE);
    }

    private static void craftIdleNotSet(int d) {
        Check.sentence("every PDU of kind 1 to 5 sets its IDLE clock (no other kind, no other record's, no frame alone)");
        int idle = 12 * span(d);
        for (int kind : OTHER_KINDS_UP) {
            LoneCraft c = new LoneCraft(d).hears(up(Infos.DATA, 0, 1)).hearsIn(idle - 1, up(kind, 0, 1));
            outcome("kind " + kind, c, FINAL + 4);
        }
        long[] others = {Infos.past(Infos.DATA, 2, 0, 1), Infos.past(Infos.DATA, 4, 0, 1), Infos.set(0), Infos.unlock(),
            Infos.frame(0, 1, Infos.pdu(Infos.DATA, 3, 1, 1)), Infos.frame(4, 0, Infos.pdu(Infos.DATA, 3, 1, 1))};
        for (int i = 0; i < others.length; i++) {
            LoneCraft c = new LoneCraft(d).hears(up(Infos.DATA, 0, 1)).hearsIn(idle - 1, others[i]);
            outcome("other " + i, c, FINAL + 4);
        }
    }

    /** METADATA was taken, EOF is heard in the next tick and is not WHOLE. */
    private static LoneCraft isToHearEof(int d) {
        return new LoneCraft(d).hears(up(Infos.METADATA, 2, 0)).isToHear(up(Infos.EOF, 2, 7));
    }

    private static void craftLack(int d) {
        Check.sentence("Otherwise, if EOF was taken, its clock goes down; if it runs out: .. TRIES grows by 1, "
            + "it OWES a LACK, its clock is set to 3T");
        Supplier<LoneCraft> story = () -> isToHearEof(d);
        int three = 3 * span(d);
        LoneCraft.sends("EOF", story, got(), lack(3), NO_PDU);
        for (int tries = 2; tries <= 4; tries++) {
            int tick = (tries - 1) * three - 1;
            LoneCraft.sendsAfter("TRIES " + tries + ", not yet", story, tick - 1, NO_PDU);
            LoneCraft.sendsAfter("TRIES " + tries, story, tick, lack(3));
            LoneCraft.sendsAfter("TRIES " + tries + ", no more", story, tick + 1, NO_PDU);
        }
        LoneCraft none = new LoneCraft(d).hears(up(Infos.METADATA, 2, 0));
        LoneCraft.sendsAfter("no EOF, no LACK", () -> new LoneCraft(d).isToHear(up(Infos.METADATA, 2, 0)),
            three - 1, NO_PDU);
        none.pass(3 * three);
        outcome("no EOF, no end by TRIES", none, OPEN);
    }

    private static void craftIdleBeforeItsClock(int d) {
        Check.sentence("Step 2: .. if it runs out, the record is CLOSED with condition 4. Otherwise, if EOF was taken");
        // Both run out in the same tick.
        LoneCraft c = isToHearEof(d);
        c.pass(1);
        closesIn("IDLE and the clock", c, 12 * span(d) - 1, OPEN, FINAL + 4);
        LoneCraft.sendsAfter("no FINISHED", () -> isToHearEof(d), 12 * span(d) - 1, NO_PDU);
    }

    /** EOF was taken; one tick before three of its spans are over a PDU comes that sets IDLE anew. */
    private static LoneCraft stirred(int d, long info) {
        LoneCraft c = isToHearEof(d);
        c.pass(1);
        return c.hearsIn(9 * span(d) + 2, info);
    }

    private static void craftTriesFour(int d) {
        Check.sentence("with TRIES 4 it ends with condition 3");
        int left = 3 * span(d) - 3;
        long[] nothingTaken = {up(Infos.EOF, 2, 7), up(Infos.METADATA, 2, 0), up(Infos.DATA, 16, 0), up(Infos.DONE, 0, 0)};
        for (int i = 0; i < nothingTaken.length; i++) {
            long info = nothingTaken[i];
            LoneCraft c = stirred(d, info);
            Check.due("PDU " + i + ", not yet, run", c.pass(left - 1), 0);
            outcome("PDU " + i + ", not yet", c, OPEN);
            Check.due("PDU " + i + ", ENDING is not CLOSED, run", c.pass(1), 0);
            outcome("PDU " + i, c, 3);
        }
        LoneCraft.sendsAfter("FINISHED in the same tick", () -> stirred(d, up(Infos.DONE, 0, 0)), left - 1, finished(3));
        LoneCraft.sendsAfter("not before", () -> stirred(d, up(Infos.DONE, 0, 0)), left - 2, NO_PDU);
    }

    private static void craftTriesAnew(int d) {
        Check.sentence("METADATA or DATA taken set TRIES to 1");
        int three = 3 * span(d);
        // TRIES was 4: now the clock runs out 3 times more before the limit, and then it ends.
        LoneCraft c = stirred(d, up(Infos.DATA, 0, 0));
        c.pass(three - 3);
        outcome("DATA, the clock runs out with TRIES 1", c, OPEN);
        c.pass(3 * three - 1);
        outcome("DATA, not yet", c, OPEN);
        c.pass(1);
        outcome("DATA, at the limit", c, 3);
        // The same with EOF first, so that METADATA can be taken after it.
        LoneCraft m = new LoneCraft(d).hears(up(Infos.EOF, 2, 7)).hearsIn(9 * span(d) + 2, up(Infos.METADATA, 2, 0));
        m.pass(three - 3);
        outcome("METADATA, the clock runs out with TRIES 1", m, OPEN);
        m.pass(3 * three - 1);
        outcome("METADATA, not yet", m, OPEN);
        m.pass(1);
        outcome("METADATA, at the limit", m, 3);
        LoneCraft.sendsAfter("DATA leaves the clock", () -> stirred(d, up(Infos.DATA, 0, 0)), three - 4, lack(2));
    }

    private static void craftTriesAfterEof(int d) {
        Check.sentence("When it is EOF that was taken just now, and the record is not WHOLE, .. its clock is set to 3T, "
            + "TRIES is 1.");
        int three = 3 * span(d);
        LoneCraft made = new LoneCraft(d).hears(up(Infos.EOF, 2, 7)).hearsIn(9 * span(d) + 2, up(Infos.DONE, 0, 0));
        made.pass(three - 4);
        outcome("a record that EOF made, not yet", made, OPEN);
        made.pass(1);
        outcome("a record that EOF made", made, 3);
        LoneCraft late = new LoneCraft(d).hears(up(Infos.DATA, 0, 1)).hearsIn(2 * three + 5, up(Infos.EOF, 2, 7));
        late.hearsIn(9 * span(d) + 2, up(Infos.DONE, 0, 0));
        late.pass(three - 4);
        outcome("EOF long after DATA, not yet", late, OPEN);
        late.pass(1);
        outcome("EOF long after DATA", late, 3);
    }

    private static void craftFinished(int d) {
        Check.sentence("ENDING: its clock goes down; if it runs out: with TRIES 4 it is CLOSED, else TRIES grows by 1, "
            + "it OWES a FINISHED, its clock is set to 3T.");
        int three = 3 * span(d);
        Supplier<LoneCraft> cancelled = () -> new LoneCraft(d).isToHear(up(Infos.CANCEL, 0, 0));
        LoneCraft.sends("CANCEL", cancelled, got(), finished(5), NO_PDU);
        for (int tries = 2; tries <= 4; tries++) {
            int tick = (tries - 1) * three - 1;
            LoneCraft.sendsAfter("TRIES " + tries + ", not yet", cancelled, tick - 1, NO_PDU);
            LoneCraft.sendsAfter("TRIES " + tries, cancelled, tick, finished(5));
            LoneCraft.sendsAfter("TRIES " + tries + ", no more", cancelled, tick + 1, NO_PDU);
        }
        LoneCraft.sendsAfter("no fifth", cancelled, 4 * three - 1, NO_PDU);
        closesIn("CANCEL", new LoneCraft(d).hears(up(Infos.CANCEL, 0, 0)), 4 * three - 1, 5, FINAL + 5);
        LoneCraft stirred = new LoneCraft(d).hears(up(Infos.CANCEL, 0, 0)).hearsIn(three, up(Infos.DATA, 0, 0))
            .hearsIn(three, up(Infos.CANCEL, 0, 0)).hearsIn(three, up(Infos.METADATA, 0, 0));
        closesIn("what comes while ENDING sets nothing", stirred, three - 1, 5, FINAL + 5);
    }

    private static void craftFinishedAfterTheLimit(int d) {
        Check.sentence("ENDING with a condition: .. its clock is set to 3T, TRIES is 1.");
        int three = 3 * span(d);
        int ends = three - 4;
        Supplier<LoneCraft> story = () -> stirred(d, up(Infos.DONE, 0, 0));
        // It ends in step 2 itself: its new clock goes down from the next tick on.
        LoneCraft.sendsAfter("FINISHED", story, ends, finished(3));
        for (int tries = 2; tries <= 4; tries++) {
            int tick = ends + (tries - 1) * three;
            LoneCraft.sendsAfter("TRIES " + tries + ", not yet", story, tick - 1, NO_PDU);
            LoneCraft.sendsAfter("TRIES " + tries, story, tick, finished(3));
        }
        LoneCraft c = story.get();
        c.pass(ends + 1);
        // IDLE would run out before that: it does not count while ENDING.
        closesIn("by TRIES", c, 4 * three, 3, FINAL + 3);
        LoneCraft w = new LoneCraft(d).hears(up(Infos.EOF, 1, 7), up(Infos.METADATA, 1, 0));
        w.hearsIn(2 * three, up(Infos.DATA, 0, 7));
        closesIn("WHOLE by DATA after two spans", w, 4 * three - 1, 1, FINAL + 1);
    }

    // The ground: transaction 0, past the order, of length 0: METADATA in tick 1, EOF in tick 2.

    private static LoneGround sent(int d) {
        LoneGround g = new LoneGround(d);
        g.link.put(0, 0, 0, true);
        g.pass(2);
        return g;
    }

    private static long eof() {
        return Infos.past(Infos.EOF, 0, 0, 0);
    }

    private static long cancel() {
        return Infos.past(Infos.CANCEL, 0, 0, 0);
    }

    private static long answer(int kind, int mask) {
        return Infos.down(0, kind, 0, mask);
    }

    private static LoneGround cancelled(LoneGround g) {
        g.link.cancel(0);
        return g;
    }

    private static LoneGround suspended(LoneGround g, boolean on) {
        g.link.suspend(0, on);
        return g;
    }

    private static void endsIn(String what, LoneGround g, int ticks, int after) {
        Check.due(what + ", not yet, run", g.pass(ticks - 1), 0);
        Check.due(what + ", not yet, outcome", g.link.outcome(false, 0), UNDER_WAY);
        Check.due(what + ", run", g.pass(1), 1);
        Check.due(what + ", outcome", g.link.outcome(false, 0), after);
    }

    /** From a sending in the tick before on, the block goes again after each 3T, four times in all. */
    private static void goesFourTimes(String what, Supplier<LoneGround> story, int three, long info) {
        for (int tries = 2; tries <= 4; tries++) {
            int tick = (tries - 1) * three - 1;
            LoneGround.sendsAfter(what + ", TRIES " + tries + ", not yet", story, tick - 1, NONE);
            LoneGround.sendsAfter(what + ", TRIES " + tries, story, tick, info);
            LoneGround.sendsAfter(what + ", TRIES " + tries + ", no more", story, tick + 1, NONE);
        }
        LoneGround.sendsAfter(what + ", no fifth", story, 4 * three - 1, NONE);
        endsIn(what, story.get(), 4 * three, FINAL + 3);
    }

    private static void groundClock(int d) {
        Check.sentence("its clock goes down; if it runs out: with TRIES 4 it is ENDED with outcome 3, "
            + "else TRIES grows by 1 and EOF (or CANCEL) is due.");
        goesFourTimes("EOF", () -> sent(d), 3 * span(d), eof());
        LoneGround lacking = sent(d).hears(answer(Infos.LACK, 0));
        endsIn("a LACK alone does not answer", lacking, 12 * span(d) - d - 1, FINAL + 3);
    }

    private static void groundClockAfterCancel(int d) {
        Check.sentence("cancel makes CANCEL due ..; TRIES is 1, it is not ANSWERED.");
        int three = 3 * span(d);
        goesFourTimes("CANCEL after EOF went four times", () -> {
            LoneGround g = sent(d);
            g.pass(3 * three + 1);
            cancelled(g).pass(1);
            return g;
        }, three, cancel());
        goesFourTimes("CANCEL after a GOT", () -> {
            LoneGround g = cancelled(sent(d).hears(answer(Infos.GOT, 0)));
            g.pass(1);
            return g;
        }, three, cancel());
    }

    private static void groundClockNotBeforeEof(int d) {
        Check.sentence("if EOF or CANCEL was sent since it was made due last");
        // 16 words in order, of which no frame is confirmed: EOF waits, and its clock with it.
        LoneGround g = new LoneGround(d);
        g.link.put(0, 16, 0, false);
        g.pass(13 * span(d));
        Check.due("EOF was never sent, outcome", g.link.outcome(false, 0), UNDER_WAY);
        // EOF of the first goes, is due again 3T later, and finds the window full by the second.
        LoneGround full = new LoneGround(d);
        full.link.put(0, 0, 0, false);
        full.link.put(0, 16, 0, false);
        full.pass(20 * span(d));
        Check.due("EOF is due again and cannot be sent, outcome", full.link.outcome(false, 0), UNDER_WAY);
        LoneGround.sends("the clock of a SUSPENDED one waits", () -> {
            LoneGround s = sent(d);
            s.pass(3 * span(d) - 1);
            suspended(s, true).pass(5);
            return suspended(s, false);
        }, eof(), NONE);
        LoneGround c = cancelled(suspended(sent(d), true));
        c.pass(13 * span(d));
        Check.due("CANCEL was not sent, outcome", c.link.outcome(false, 0), UNDER_WAY);
    }

    /**
     * With a delay of 1: EOF of transaction 1 goes in tick 2, so that its clock would run out in tick 26;
     * it is cancelled, but transaction 0 has something due up to tick 29.
     */
    private static LoneGround cancelThatWaits() {
        LoneGround g = new LoneGround(1);
        g.link.put(0, 16, 0, true);
        suspended(g, true);
        g.link.put(0, 0, 0, true);
        g.pass(2);
        g.link.cancel(1);
        suspended(g, false).pass(8);
        g.hears(Infos.down(0, Infos.LACK, 0, 0x1FFFF));
        g.pass(17);
        return g;
    }

    private static void groundClockWaitsForCancel() {
        Check.sentence("if EOF or CANCEL was sent since it was made due last (CANCEL after EOF)");
        LoneGround.sends("CANCEL in tick 30", ClocksEdgesTest::cancelThatWaits, Infos.past(Infos.CANCEL, 1, 0, 0), NONE);
        LoneGround g = cancelThatWaits();
        // It goes in the ticks 30, 54, 78 and 102.
        g.pass(125 - 29);
        Check.due("time()", g.link.time(), 125);
        Check.due("not yet, outcome", g.link.outcome(false, 1), UNDER_WAY);
        g.pass(1);
        Check.due("outcome", g.link.outcome(false, 1), FINAL + 3);
    }

    private static void groundIdle(int d) {
        Check.sentence("if it is ANSWERED: IDLE goes down; if it runs out, it is ENDED with outcome 4.");
        int idle = 12 * span(d);
        endsIn("GOT", sent(d).hears(answer(Infos.GOT, 0)), idle - 1, FINAL + 4);
        endsIn("GOT before EOF went", putOnly(d).hears(answer(Infos.GOT, 0)), idle - 1, FINAL + 4);
        // EOF was sent in tick 2; without the GOT it would go again 3T later.
        LoneGround.sendsAfter("EOF is not due again", () -> sent(d).hears(answer(Infos.GOT, 0)),
            3 * span(d) - d - 2, NONE);
        LoneGround c = cancelled(sent(d));
        c.pass(1);
        endsIn("GOT for CANCEL", c.hears(answer(Infos.GOT, 0)), idle - 1, FINAL + 4);
    }

    private static LoneGround putOnly(int d) {
        LoneGround g = new LoneGround(d);
        g.link.put(0, 0, 0, true);
        return g;
    }

    private static void groundIdleSetByEachKind(int d) {
        Check.sentence("Each of these three (no other kind) sets IDLE to 12T, whatever the transaction is.");
        int idle = 12 * span(d);
        for (int kind : new int[] {Infos.GOT, Infos.LACK}) {
            LoneGround g = sent(d).hears(answer(Infos.GOT, 0)).hearsIn(idle - 1, answer(kind, 0));
            endsIn("kind " + kind, g, idle - 1, FINAL + 4);
            LoneGround c = cancelled(sent(d));
            c.pass(1);
            c.hears(answer(Infos.GOT, 0)).hearsIn(idle - 1, answer(kind, 0));
            endsIn("cancelled, kind " + kind, c, idle - 1, FINAL + 4);
            LoneGround s = suspended(sent(d).hears(answer(Infos.GOT, 0)), true);
            suspended(s.hearsIn(50, answer(kind, 0)), false);
            endsIn("SUSPENDED, kind " + kind, s, idle, FINAL + 4);
        }
        LoneGround f = sent(d).hears(answer(Infos.GOT, 0)).hearsIn(idle - 1, answer(Infos.FINISHED, 2));
        Check.due("FINISHED in the last tick", f.link.outcome(false, 0), FINAL + 2);
        LoneGround late = sent(d).hears(answer(Infos.GOT, 0)).hearsIn(idle, answer(Infos.FINISHED, 2));
        Check.due("FINISHED a tick too late", late.link.outcome(false, 0), FINAL + 4);
        for (int kind : OTHER_KINDS_DOWN) {
            LoneGround g = sent(d).hears(answer(Infos.GOT, 0)).hearsIn(idle - 1, answer(kind, 0));
            Check.due("kind " + kind, g.link.outcome(false, 0), FINAL + 4);
        }
        LoneGround o = sent(d);
        o.link.put(0, 0, 0, true);
        o.hears(answer(Infos.GOT, 0)).hearsIn(idle - 1, Infos.down(0, Infos.GOT, 1, 0));
        Check.due("GOT for another", o.link.outcome(false, 0), FINAL + 4);
    }

    private static void suspendedClocksStand(int d) {
        Check.sentence("SUSPENDED (.. its clocks stand still where they are)");
        int three = 3 * span(d);
        for (int before : new int[] {0, 1, three - 1}) {
            LoneGround g = sent(d);
            g.pass(before);
            suspended(g, true).pass(37);
            suspended(g, false);
            int seen = g.link.sent(true);
            g.pass(three - before - 1);
            Check.due("clock after " + before + ", not yet, sent", g.link.sent(true), seen);
            g.pass(1);
            Check.due("clock after " + before + ", sent", g.link.sent(true), seen + 1);
        }
        for (int before : new int[] {0, 1, 4 * three - 2}) {
            LoneGround g = sent(d).hears(answer(Infos.GOT, 0));
            g.pass(before);
            Check.due("IDLE stands, run", suspended(g, true).pass(150), 0);
            endsIn("IDLE after " + before, suspended(g, false), 4 * three - 1 - before, FINAL + 4);
        }
    }

    // The ground's frames: transaction 0, in order; it is SUSPENDED as soon as its frames have been sent.

    private static LoneGround frames(int d, int n) {
        LoneGround g = new LoneGround(d);
        g.link.put(0, 16, 0, false);
        g.pass(n);
        return suspended(g, true);
    }

    private static long frame(int number) {
        return number == 0 ? Infos.inOrder(0, Infos.METADATA, 0, 16, 0)
            : Infos.inOrder(number, Infos.DATA, 0, number - 1, 0);
    }

    private static void framesClock(int d) {
        Check.sentence("Step 5: if not ACTIVE, or there are UNCONFIRMED: the clock goes down; if it runs out: .. "
            + "ACTIVE with COUNT 4: ALERT to SETTING; else COUNT grows by 1 and all UNCONFIRMED are MARKED");
        int t = span(d);
        for (int count = 1; count <= 3; count++) {
            LoneGround.sendsAfter("one frame, COUNT " + count + ", not yet", () -> frames(d, 1), count * t - 2, NONE);
            LoneGround.sendsAfter("one frame, COUNT " + count, () -> frames(d, 1), count * t - 1, frame(0));
            LoneGround.sendsAfter("one frame, COUNT " + count + ", no more", () -> frames(d, 1), count * t, NONE);
        }
        LoneGround.sendsAfter("one frame, COUNT 4, not yet", () -> frames(d, 1), 4 * t - 2, NONE);
        LoneGround.sendsAfter("one frame, COUNT 4", () -> frames(d, 1), 4 * t - 1, Infos.set(1));
        LoneGround g = frames(d, 1);
        g.pass(4 * t - 1);
        Check.due("COUNT 4, not yet, alerts()", g.link.alerts(), 0);
        Check.due("COUNT 4, not yet, window()", g.link.window(), 4 + 64);
        g.pass(1);
        Check.due("COUNT 4, alerts()", g.link.alerts(), 1);
        Check.due("COUNT 4, window()", g.link.window(), 2 + 4);
        LoneGround h = frames(d, 7);
        h.pass(t);
        Check.due("seven are MARKED, one is sent, window()", h.link.window(), 4 * 7 + 64 * 7 + 512 * 6);
    }

    private static void framesClockSetByEachSending(int d) {
        Check.sentence("the oldest such once more, no longer MARKED; the clock is set to T (no transaction's clock)");
        int t = span(d);
        LoneGround.sendsAfter("three frames, the oldest", () -> frames(d, 3), t - 1, frame(0));
        LoneGround.sendsAfter("three frames, the next", () -> frames(d, 3), t, frame(1));
        LoneGround.sendsAfter("three frames, the youngest", () -> frames(d, 3), t + 1, frame(2));
        LoneGround.sendsAfter("T from the youngest on, not yet", () -> frames(d, 3), 2 * t, NONE);
        LoneGround.sendsAfter("T from the youngest on", () -> frames(d, 3), 2 * t + 1, frame(0));
        // EOF in order in tick 2 is sent again, as a frame, until it is due itself, 3T after tick 2.
        Supplier<LoneGround> story = () -> {
            LoneGround g = new LoneGround(d);
            g.link.put(0, 0, 0, false);
            g.pass(2);
            return g;
        };
        LoneGround.sendsAfter("EOF's frame again", story, t, Infos.inOrder(1, Infos.EOF, 0, 0, 0));
        LoneGround.sendsAfter("EOF is due itself", story, 3 * t - 1, Infos.inOrder(2, Infos.EOF, 0, 0, 0));
    }

    private static void framesClockSetByAFrame(int d) {
        Check.sentence("it is the youngest UNCONFIRMED, the clock is set to T");
        int t = span(d);
        Supplier<LoneGround> story = () -> {
            LoneGround g = frames(d, 1);
            g.pass(t - 2);
            suspended(g, false).pass(1);
            return suspended(g, true);
        };
        LoneGround.sendsAfter("a second frame in the last tick, not yet", story, t - 2, NONE);
        LoneGround.sendsAfter("a second frame in the last tick", story, t - 1, frame(0));
        LoneGround.sendsAfter("what goes past the order sets no clock", () -> {
            LoneGround g = frames(d, 1);
            g.link.put(0, 16, 0, true);
            return g;
        }, t - 1, frame(0));
        LoneGround.sendsAfter("and is sent before", () -> {
            LoneGround g = frames(d, 1);
            g.link.put(0, 16, 0, true);
            return g;
        }, t - 2, Infos.past(Infos.DATA, 1, t - 3, 0));
    }

    private static void countOfTheOnlyOne(int d) {
        Check.sentence("and COUNT is 1 if it is the only one");
        int t = span(d);
        // COUNT is 4 by the one frame: a second one leaves it so.
        LoneGround g = frames(d, 1);
        g.pass(3 * t);
        suspended(g, false).pass(1);
        suspended(g, true).pass(t - 1);
        Check.due("a second one, not yet, alerts()", g.link.alerts(), 0);
        Check.due("a second one, not yet, sent", g.link.sent(true), 5);
        g.pass(1);
        Check.due("a second one, alerts()", g.link.alerts(), 1);
        // COUNT was 4, all are confirmed, and the next frame is the only one: it goes four times.
        LoneGround h = frames(d, 1);
        h.pass(3 * t);
        suspended(h.hears(Infos.report(1)), false).pass(1);
        suspended(h, true).pass(4 * t - 1);
        Check.due("the only one, not yet, alerts()", h.link.alerts(), 0);
        Check.due("the only one, not yet, sent", h.link.sent(true), 8);
        h.pass(1);
        Check.due("the only one, alerts()", h.link.alerts(), 1);
        // The same after an ALERT.
        LoneGround a = frames(d, 1);
        a.pass(4 * t);
        suspended(a.hears(Infos.report(1)), false).pass(1);
        int seen = a.link.sent(true);
        suspended(a, true).pass(4 * t - 1);
        Check.due("after an ALERT, not yet, alerts()", a.link.alerts(), 1);
        Check.due("after an ALERT, not yet, sent", a.link.sent(true), seen + 3);
        a.pass(1);
        Check.due("after an ALERT, alerts()", a.link.alerts(), 2);
    }

    private static void framesClockSetByConfirming(int d) {
        Check.sentence("if x > 0, COUNT is 1 and the clock is set to T");
        int t = span(d);
        Supplier<LoneGround> story = () -> frames(d, 2).hears(Infos.report(1));
        LoneGround.sendsAfter("not yet", story, t - 3, NONE);
        LoneGround.sendsAfter("T with the tick of the report", story, t - 2, frame(1));
        LoneGround zero = frames(d, 2).hears(Infos.report(0));
        int seen = zero.link.sent(true);
        zero.pass(t - d - 2);
        Check.due("x is 0, not yet, sent", zero.link.sent(true), seen);
        zero.pass(1);
        Check.due("x is 0 sets no clock, sent", zero.link.sent(true), seen + 1);
        // COUNT 4 when one of two is confirmed: three times more, then ALERT.
        LoneGround g = frames(d, 2);
        g.pass(3 * t + 3);
        Check.due("each was sent three times more, sent", g.link.sent(true), 8);
        g.hears(Infos.report(1));
        g.pass(4 * t - 2);
        Check.due("COUNT is 1, alerts()", g.link.alerts(), 0);
        Check.due("COUNT is 1, sent", g.link.sent(true), 11);
        g.pass(1);
        Check.due("COUNT 4 again, alerts()", g.link.alerts(), 1);
    }

    private static void framesClockSetByAgain(int d) {
        Check.sentence("all UNCONFIRMED are MARKED, RECOVERING is on, the clock is set to T");
        int t = span(d);
        // AGAIN is heard in the tick in which the clock would run out: COUNT grows once, not twice.
        LoneGround g = frames(d, 1).hearsIn(t, Infos.report(Infos.AGAIN));
        Check.due("the frame once more, sent", g.link.sent(true), 2);
        g.pass(3 * t - 1);
        Check.due("COUNT 4, not yet, alerts()", g.link.alerts(), 0);
        Check.due("COUNT 4, not yet, sent", g.link.sent(true), 4);
        g.pass(1);
        Check.due("COUNT 4, alerts()", g.link.alerts(), 1);
    }

    private static void framesClockStands(int d) {
        Check.sentence("Step 5: if not ACTIVE, or there are UNCONFIRMED (else the clock stands)");
        LoneGround g = frames(d, 1).hears(Infos.report(1));
        int seen = g.link.sent(true);
        g.pass(100);
        Check.due("none is UNCONFIRMED, sent", g.link.sent(true), seen);
        Check.due("none is UNCONFIRMED, alerts()", g.link.alerts(), 0);
        Check.due("none is UNCONFIRMED, window()", g.link.window(), 4);
    }

    private static void directiveAgain(int d) {
        Check.sentence("not ACTIVE: the directive is due");
        int t = span(d);
        Supplier<LoneGround> setting = () -> new LoneGround(d).isToHear(Infos.report(1));
        Supplier<LoneGround> unlocking = () -> new LoneGround(d).isToHear(Infos.report(Infos.LOCKED));
        for (int times = 0; times <= 6; times++) {
            LoneGround.sendsAfter("SET, " + times + " times T", setting, times * t, Infos.set(0));
            LoneGround.sendsAfter("UNLOCK, " + times + " times T", unlocking, times * t, Infos.unlock());
            LoneGround.sendsAfter("SET, a tick later", setting, times * t + 1, NONE);
            LoneGround.sendsAfter("UNLOCK, a tick before", unlocking, times * t + t - 1, NONE);
        }
        LoneGround g = setting.get();
        g.pass(6 * t);
        Check.due("it is no ALERT, alerts()", g.link.alerts(), 1);
    }

    private static void directiveSetsTheClock(int d) {
        Check.sentence("if the directive is due: UNLOCK .., SET ..; it is due no more; the clock is set to T.");
        int t = span(d);
        // UNLOCK goes in the tick of the first report, SET in that of the second, which is 3 ticks later.
        Supplier<LoneGround> story = () -> {
            LoneGround g = new LoneGround(d).comes(Infos.report(Infos.LOCKED));
            g.pass(2);
            return g.isToHear(Infos.report(0));
        };
        LoneGround.sends("SET", story, Infos.set(0), NONE);
        LoneGround.sendsAfter("SET again, not yet", story, t - 1, NONE);
        LoneGround.sendsAfter("SET again", story, t, Infos.set(0));
    }

    private static void firstHeard(int d) {
        Check.sentence("the craft hears the up block that was sent when time was D less, if one was; "
            + "the ground hears the down block that was sent when time was D less");
        FarLink x = new FarLink(d);
        x.put(0, 0, 0, true);
        x.run(d);
        Check.due("METADATA is not heard yet", x.missing(0), -1);
        x.run(1);
        Check.due("METADATA is heard", x.missing(0), 0x2FFFF);
        x.run(1);
        Check.due("EOF is heard", x.missing(0), 0xFFFF);
        LoneGround g = new LoneGround(d);
        g.link.put(0, 0, 0, true);
        g.comes(answer(Infos.FINISHED, 1));
        g.pass(d - 1);
        Check.due("FINISHED is not heard yet", g.link.outcome(false, 0), UNDER_WAY);
        g.pass(1);
        Check.due("FINISHED is heard", g.link.outcome(false, 0), FINAL + 1);
    }

    public static void main(String[] args) {
        for (int d = 1; d <= 5; d++) {
            craftIdle(d);
            craftIdleSetByEachKind(d);
            craftIdleNotSet(d);
            craftLack(d);
            craftIdleBeforeItsClock(d);
            craftTriesFour(d);
            craftTriesAnew(d);
            craftTriesAfterEof(d);
            craftFinished(d);
            craftFinishedAfterTheLimit(d);
            groundClock(d);
            groundClockAfterCancel(d);
            groundClockNotBeforeEof(d);
            groundIdle(d);
            groundIdleSetByEachKind(d);
            suspendedClocksStand(d);
            framesClock(d);
            framesClockSetByEachSending(d);
            framesClockSetByAFrame(d);
            countOfTheOnlyOne(d);
            framesClockSetByConfirming(d);
            framesClockSetByAgain(d);
            framesClockStands(d);
            directiveAgain(d);
            directiveSetsTheClock(d);
            firstHeard(d);
        }
        groundClockWaitsForCancel();
        Check.end();
    }
}
