/** The boundary cases of "The ground's frames" and promises 15 and 16, each sentence by a test of its own. */
public final class GroundFramesEdgesTest {
    private static final int ACTIVE = 0;
    private static final int UNLOCKING = 1;
    private static final int SETTING = 2;
    private static final int LOCKED = Infos.LOCKED;
    private static final int AGAIN = Infos.AGAIN;
    private static final long NONE = Infos.NONE;

    /** File 0: 10, 20, 30, ..; its 16 words are transaction 0, in order: 18 frames. */
    private static LoneGround ground() {
        LoneGround g = new LoneGround(1);
        for (int k = 0; k < 16; k++) {
            g.link.write(0, k, 10 * (k + 1));
        }
        g.link.put(0, 16, 2, false);
        return g;
    }

    /** Frame i of transaction 0. */
    private static long frame(int i) {
        if (i == 0) {
            return Infos.inOrder(0, Infos.METADATA, 0, 16, 2);
        }
        return i == 17 ? Infos.inOrder(1, Infos.EOF, 0, 16, 1360) : Infos.inOrder(i & 15, Infos.DATA, 0, i - 1, 10 * i);
    }

    private static LoneGround suspended(LoneGround g, boolean on) {
        g.link.suspend(0, on);
        return g;
    }

    private static LoneGround passed(LoneGround g, int ticks) {
        g.pass(ticks);
        return g;
    }

    /** So many frames were sent and all were confirmed; transaction 0 is SUSPENDED. */
    private static LoneGround confirmed(int frames) {
        LoneGround g = suspended(ground(), true);
        for (int i = 0; i < frames; i++) {
            suspended(g, false).pass(1);
            suspended(g, true).hears(Infos.report(i + 1 & 15));
        }
        return g;
    }

    /** Of so many frames the last ones are UNCONFIRMED; transaction 0 is SUSPENDED. */
    private static LoneGround unconfirmed(int frames, int last) {
        LoneGround g = suspended(confirmed(frames - last), false);
        g.pass(last);
        return suspended(g, true);
    }

    private static LoneGround unlocking(int frames) {
        return confirmed(frames).hears(Infos.report(frames & 15 | LOCKED));
    }

    private static LoneGround setting(int frames) {
        return confirmed(frames).hears(Infos.report(frames + 1 & 15));
    }

    private static void window(String what, LoneGround g, int state, int next, int unconfirmed, int marked) {
        Check.due(what + ", window()", g.link.window(), state + 4 * next + 64 * unconfirmed + 512 * marked);
    }

    private static void alerts(String what, LoneGround g, int want) {
        Check.due(what + ", alerts()", g.link.alerts(), want);
    }

    private static void begin() {
        Check.sentence("NEXT is 0 at first. .. COUNT is 1, RECOVERING off at first.");
        window("at first", ground(), ACTIVE, 0, 0, 0);
        LoneGround.sends("the first frame", GroundFramesEdgesTest::ground, frame(0), frame(1));
        window("AGAIN marks the first frame", unconfirmed(1, 1).hears(Infos.report(AGAIN)), ACTIVE, 1, 1, 0);
        Check.due("AGAIN marks the first frame, sent(true)",
            unconfirmed(1, 1).hears(Infos.report(AGAIN)).link.sent(true), 2);
    }

    private static void atMostSeven() {
        Check.sentence("UNCONFIRMED are the frames of type 0 that were sent and not confirmed, at most 7, in order");
        LoneGround.sends("seven", GroundFramesEdgesTest::ground,
            frame(0), frame(1), frame(2), frame(3), frame(4), frame(5), frame(6), NONE);
        window("six", passed(ground(), 6), ACTIVE, 6, 6, 0);
        window("seven", passed(ground(), 7), ACTIVE, 7, 7, 0);
        window("no eighth", passed(ground(), 8), ACTIVE, 7, 7, 0);
        LoneGround.sends("one is confirmed", () -> passed(ground(), 7).isToHear(Infos.report(1)), frame(7), NONE);
        LoneGround.sends("two are confirmed",
            () -> passed(ground(), 7).isToHear(Infos.report(2)), frame(7), frame(8), NONE);
        LoneGround.sends("all are confirmed", () -> passed(ground(), 7).isToHear(Infos.report(7)),
            frame(7), frame(8), frame(9), frame(10), frame(11), frame(12), frame(13), NONE);
    }

    private static void fullButForThePast() {
        Check.sentence("and either goes past the order, or the state is ACTIVE and fewer than 7 are UNCONFIRMED");
        LoneGround.sends("seven, and one goes past the order", () -> {
            LoneGround g = passed(ground(), 6);
            g.link.put(0, 0, 3, true);
            return g;
        }, frame(6), Infos.past(Infos.METADATA, 1, 0, 3), Infos.past(Infos.EOF, 1, 0, 0), NONE);
        LoneGround.sends("seven, and another in order waits", () -> {
            LoneGround g = suspended(passed(ground(), 7), true);
            g.link.put(0, 0, 3, false);
            return g;
        }, NONE, NONE);
        LoneGround.sends("seven, and DONE in order waits",
            () -> passed(ground(), 7).isToHear(Infos.down(0, Infos.FINISHED, 0, 1)), NONE, NONE);
        LoneGround.sends("and is sent when one is confirmed",
            () -> passed(ground(), 7).hears(Infos.down(0, Infos.FINISHED, 0, 1)).isToHear(Infos.report(1)),
            Infos.inOrder(7, Infos.DONE, 0, 0, 0), NONE);
        LoneGround.sends("UNLOCKING: past the order alone", () -> {
            LoneGround g = suspended(unlocking(1), false);
            g.link.put(0, 0, 3, true);
            return g;
        }, Infos.past(Infos.METADATA, 1, 0, 3), Infos.past(Infos.EOF, 1, 0, 0), NONE);
        LoneGround.sends("SETTING: past the order alone", () -> {
            LoneGround g = suspended(setting(1), false);
            g.link.put(0, 0, 3, true);
            return g;
        }, Infos.past(Infos.METADATA, 1, 0, 3), Infos.past(Infos.EOF, 1, 0, 0), NONE);
    }

    private static void nextWraps() {
        Check.sentence("as type 0 with number NEXT, NEXT grows by 1 (mod 16), it is the youngest UNCONFIRMED");
        LoneGround.sends("14, 15, 0, 1", () -> suspended(confirmed(14), false),
            frame(14), frame(15), frame(16), frame(17), NONE);
        window("NEXT 14", confirmed(14), ACTIVE, 14, 0, 0);
        window("NEXT 15", unconfirmed(15, 1), ACTIVE, 15, 1, 0);
        window("NEXT 0", unconfirmed(16, 2), ACTIVE, 0, 2, 0);
        window("NEXT 1", unconfirmed(17, 3), ACTIVE, 1, 3, 0);
        window("confirmed over the wrap", unconfirmed(17, 3).hears(Infos.report(1)), ACTIVE, 1, 0, 0);
    }

    private static void pastHasNoNumber() {
        Check.sentence("past the order as type 1, number 0");
        LoneGround.sends("NEXT is 5", () -> {
            LoneGround g = unconfirmed(5, 2);
            g.link.put(0, 0, 3, true);
            return g;
        }, Infos.past(Infos.METADATA, 1, 0, 3), Infos.past(Infos.EOF, 1, 0, 0));
        LoneGround h = unconfirmed(5, 2);
        h.link.put(0, 0, 3, true);
        window("it is not UNCONFIRMED", passed(h, 2), ACTIVE, 5, 2, 0);
    }

    private static void reportInTheWindow() {
        Check.sentence("Else the x oldest are confirmed");
        for (int frames : new int[] {7, 11, 18}) {
            for (int n = 0; n <= 7; n++) {
                for (int x = 0; x <= n; x++) {
                    LoneGround g = unconfirmed(frames, n).hears(Infos.report(frames - n + x & 15));
                    window("n " + n + ", x " + x, g, ACTIVE, frames & 15, n - x, 0);
                    alerts("n " + n + ", x " + x, g, 0);
                }
            }
        }
    }

    private static void reportOutOfTheWindow() {
        Check.sentence("if x > n: ALERT to SETTING");
        for (int frames : new int[] {7, 11, 18}) {
            for (int n = 0; n <= 7; n++) {
                for (int x = n + 1; x <= 15; x++) {
                    LoneGround g = unconfirmed(frames, n).hears(Infos.report(frames - n + x & 15));
                    window("n " + n + ", x " + x, g, SETTING, frames & 15, 0, 0);
                    alerts("n " + n + ", x " + x, g, 1);
                }
            }
        }
        LoneGround.sends("SET", () -> unconfirmed(15, 3).isToHear(Infos.report(11)), Infos.set(15), NONE);
        LoneGround.sends("SET after the wrap", () -> unconfirmed(16, 3).isToHear(Infos.report(1)), Infos.set(0), NONE);
    }

    private static void reportLocked() {
        Check.sentence("when ACTIVE: if LOCKED: ALERT to UNLOCKING.");
        for (int expected = 0; expected < 16; expected++) {
            for (int n : new int[] {0, 7}) {
                LoneGround g = unconfirmed(9, n).hears(Infos.report(expected | LOCKED | (n == 0 ? 0 : AGAIN)));
                window("n " + n + ", EXPECTED " + expected, g, UNLOCKING, 9, 0, 0);
                alerts("n " + n + ", EXPECTED " + expected, g, 1);
            }
        }
        LoneGround.sends("UNLOCK (number 0)", () -> unconfirmed(9, 7).isToHear(Infos.report(LOCKED)),
            Infos.unlock(), NONE);
    }

    private static void unlockingEnds() {
        Check.sentence("UNLOCKING: if not LOCKED: SETTING, and the directive is due.");
        for (int expected = 0; expected < 16; expected++) {
            LoneGround g = unlocking(9).hears(Infos.report(expected));
            window("EXPECTED " + expected, g, SETTING, 9, 0, 0);
            alerts("EXPECTED " + expected, g, 1);
            window("AGAIN, " + expected, unlocking(9).hears(Infos.report(expected | AGAIN)), SETTING, 9, 0, 0);
            window("LOCKED, " + expected, unlocking(9).hears(Infos.report(expected | LOCKED)), UNLOCKING, 9, 0, 0);
        }
        LoneGround.sends("SET", () -> unlocking(9).isToHear(Infos.report(9)), Infos.set(9), NONE);
        LoneGround.sends("still LOCKED", () -> unlocking(9).isToHear(Infos.report(9 | LOCKED)), NONE);
    }

    private static void settingIsUnlocking() {
        Check.sentence("SETTING: if LOCKED: UNLOCKING, and the directive is due");
        for (int expected = 0; expected < 16; expected++) {
            LoneGround g = setting(9).hears(Infos.report(expected | LOCKED));
            window("EXPECTED " + expected, g, UNLOCKING, 9, 0, 0);
            alerts("it is no ALERT", g, 1);
        }
        LoneGround.sends("UNLOCK", () -> setting(9).isToHear(Infos.report(9 | LOCKED)), Infos.unlock(), NONE);
    }

    private static void settingEnds() {
        Check.sentence("else if EXPECTED is NEXT and AGAIN is off: ACTIVE, and no directive is due.");
        for (int frames : new int[] {0, 9, 15, 16}) {
            for (int expected = 0; expected < 16; expected++) {
                int state = expected == (frames & 15) ? ACTIVE : SETTING;
                LoneGround g = setting(frames).hears(Infos.report(expected));
                window("NEXT " + frames + ", EXPECTED " + expected, g, state, frames & 15, 0, 0);
                LoneGround h = setting(frames).hears(Infos.report(expected | AGAIN));
                window("AGAIN, NEXT " + frames + ", EXPECTED " + expected, h, SETTING, frames & 15, 0, 0);
                alerts("it is no ALERT", g, 1);
            }
        }
        LoneGround.sends("a frame in the same tick",
            () -> suspended(setting(9), false).isToHear(Infos.report(9)), frame(9), frame(10));
        LoneGround.sends("not set yet", () -> suspended(setting(9), false).isToHear(Infos.report(8)), NONE);
    }

    private static void alertDrops() {
        Check.sentence("all UNCONFIRMED are dropped (their PDUs count as sent: nothing is due again by that)");
        LoneGround.sends("seven are dropped",
            () -> passed(ground(), 7).hears(Infos.report(9)).isToHear(Infos.report(7)), frame(7), frame(8));
        LoneGround.sends("marked ones are dropped",
            () -> passed(ground(), 7).hears(Infos.report(AGAIN), Infos.report(9)).isToHear(Infos.report(7)),
            frame(7), frame(8));
        // The last two frames are dropped; EOF is due again only when its own clock has run out.
        LoneGround.sends("EOF is dropped",
            () -> suspended(unconfirmed(18, 2).hears(Infos.report(9)).isToHear(Infos.report(2)), false), NONE, NONE);
    }

    private static void alertCount() {
        Check.sentence("ALERT: the number of alerts grows by 1");
        LoneGround g = confirmed(0);
        for (int n = 1; n <= 20; n++) {
            g.hears(Infos.report(n % 2 == 0 ? LOCKED : 1));
            alerts("ALERT " + n, g, n);
            g.hears(Infos.report(0), Infos.report(0));
            window("ACTIVE after ALERT " + n, g, ACTIVE, 0, 0, 0);
            alerts("no more", g, n);
        }
    }

    private static void alertEndsRecovering() {
        Check.sentence("ALERT: .. RECOVERING is off");
        LoneGround g = unconfirmed(2, 2).hears(Infos.report(AGAIN), Infos.report(9), Infos.report(2));
        window("ACTIVE", g, ACTIVE, 2, 0, 0);
        suspended(g, false).pass(3);
        window("AGAIN marks anew", suspended(g, true).hears(Infos.report(2 | AGAIN)), ACTIVE, 5, 3, 2);
        LoneGround h = again(unconfirmed(2, 2), 0, 4);
        alerts("ALERT by AGAIN", h, 1);
        suspended(h.hears(Infos.report(2)), false).pass(3);
        window("AGAIN marks anew after that", suspended(h, true).hears(Infos.report(2 | AGAIN)), ACTIVE, 5, 3, 2);
        // The clock runs out with COUNT 4, 8 ticks after the last frame was sent, while RECOVERING is on.
        LoneGround c = again(unconfirmed(1, 1), 0, 3);
        c.pass(8);
        alerts("ALERT by the clock", c, 1);
        suspended(c.hears(Infos.report(1)), false).pass(3);
        window("AGAIN marks anew after that", suspended(c, true).hears(Infos.report(1 | AGAIN)), ACTIVE, 4, 3, 2);
    }

    private static void againWithNoneLeft() {
        Check.sentence("if it is on and n > x");
        for (int n = 0; n <= 7; n++) {
            LoneGround g = unconfirmed(11, n).hears(Infos.report(11 | AGAIN));
            window("n and x " + n, g, ACTIVE, 11, 0, 0);
            Check.due("n and x " + n + ", sent(true)", g.link.sent(true), 11);
            suspended(g, false).pass(3);
            suspended(g, true).hears(Infos.report(11 | AGAIN));
            window("RECOVERING was not on by that, n and x " + n, g, ACTIVE, 14, 3, 2);
        }
        for (int n = 1; n <= 7; n++) {
            LoneGround g = unconfirmed(11, n).hears(Infos.report(10 | AGAIN));
            // The one that is left is MARKED, and sent in the same tick.
            window("n " + n + ", one is left", g, ACTIVE, 11, 1, 0);
            Check.due("n " + n + ", one is left, sent(true)", g.link.sent(true), 12);
        }
    }

    private static void againMarksAll() {
        Check.sentence("all UNCONFIRMED are MARKED (after AGAIN)");
        for (int n = 1; n <= 7; n++) {
            for (int x = 0; x < n; x++) {
                LoneGround g = unconfirmed(11, n).hears(Infos.report(11 - n + x | AGAIN));
                window("n " + n + ", x " + x, g, ACTIVE, 11, n - x, n - x - 1);
            }
        }
        LoneGround.sends("in order", () -> unconfirmed(17, 4).isToHear(Infos.report(14 | AGAIN)),
            frame(14), frame(15), frame(16), NONE);
    }

    private static void againWhileRecovering() {
        Check.sentence("and (x > 0 or RECOVERING is off)");
        LoneGround.sends("x 0, RECOVERING",
            () -> unconfirmed(9, 2).hears(Infos.report(7 | AGAIN)).hears(Infos.report(7 | AGAIN))
                .isToHear(Infos.report(7 | AGAIN)), NONE, NONE);
        LoneGround.sends("x 1, RECOVERING",
            () -> unconfirmed(9, 2).hears(Infos.report(7 | AGAIN)).hears(Infos.report(7 | AGAIN))
                .isToHear(Infos.report(8 | AGAIN)), frame(8), NONE);
        LoneGround.sends("x 0 after x 1, RECOVERING",
            () -> unconfirmed(9, 2).hears(Infos.report(7 | AGAIN)).hears(Infos.report(8 | AGAIN))
                .isToHear(Infos.report(8 | AGAIN)), NONE);
    }

    private static void recoveringEnds() {
        Check.sentence("Then, if AGAIN is off, RECOVERING is off");
        LoneGround.sends("AGAIN, not AGAIN, AGAIN",
            () -> unconfirmed(9, 2).hears(Infos.report(7 | AGAIN)).hears(Infos.report(7))
                .isToHear(Infos.report(7 | AGAIN)), frame(7), frame(8), NONE);
    }

    /** AGAIN so many times, each after a report without it. */
    private static LoneGround again(LoneGround g, int expected, int times) {
        for (int i = 0; i < times; i++) {
            g.hears(Infos.report(expected), Infos.report(expected | AGAIN));
        }
        return g;
    }

    private static void againFourTimes() {
        Check.sentence("if x = 0 and COUNT is 4: ALERT to SETTING; else COUNT grows by 1 if x = 0");
        for (int times = 1; times <= 3; times++) {
            LoneGround g = again(unconfirmed(9, 2), 7, times);
            window("AGAIN " + times + " times", g, ACTIVE, 9, 2, 1);
            alerts("AGAIN " + times + " times", g, 0);
        }
        LoneGround h = again(unconfirmed(9, 2), 7, 4);
        window("AGAIN 4 times", h, SETTING, 9, 0, 0);
        alerts("AGAIN 4 times", h, 1);
        LoneGround one = again(unconfirmed(9, 3), 6, 3).hears(Infos.report(7 | AGAIN));
        window("COUNT 4, but x is 1", one, ACTIVE, 9, 2, 1);
        alerts("COUNT 4, but x is 1", one, 0);
        alerts("and COUNT did not grow by that: 3 times", again(one, 7, 3), 0);
        alerts("and COUNT did not grow by that: 4 times", again(one, 7, 1), 1);
    }

    private static void confirmedCountsAnew() {
        Check.sentence("if x > 0, COUNT is 1");
        LoneGround g = again(unconfirmed(9, 3), 6, 3).hears(Infos.report(7));
        window("one is confirmed", g, ACTIVE, 9, 2, 0);
        again(g, 7, 3);
        alerts("AGAIN 3 times since", g, 0);
        again(g, 7, 1);
        alerts("AGAIN 4 times since", g, 1);
        LoneGround h = again(unconfirmed(9, 3), 6, 3).hears(Infos.report(6));
        alerts("x is 0", again(h, 6, 1), 1);
    }

    private static void markedFirst() {
        Check.sentence("if ACTIVE and a frame is MARKED: the oldest such once more, no longer MARKED");
        LoneGround.sends("before what is due", () -> passed(ground(), 3).isToHear(Infos.report(AGAIN)),
            frame(0), frame(1), frame(2), frame(3), frame(4));
        LoneGround.sends("before what goes past the order", () -> {
            LoneGround g = unconfirmed(2, 2);
            g.link.put(0, 0, 3, true);
            g.link.suspend(1, true);
            g.isToHear(Infos.report(AGAIN));
            g.link.suspend(1, false);
            return g;
        }, frame(0), frame(1), Infos.past(Infos.METADATA, 1, 0, 3));
        LoneGround.sends("confirmed ones are not sent",
            () -> unconfirmed(7, 7).comes(Infos.report(AGAIN)).comes(Infos.report(5)), frame(5), frame(6), NONE);
        LoneGround.sends("of a SUSPENDED transaction, too", () -> unconfirmed(2, 2).isToHear(Infos.report(AGAIN)),
            frame(0), frame(1), NONE);
    }

    /** Frames 0 to 2 are MARKED; 1 and 2 are so still when they are no longer UNCONFIRMED; NEXT comes round to 0. */
    private static LoneGround roundAfterMarked(boolean byAlert) {
        LoneGround g = unconfirmed(3, 3).hears(Infos.report(AGAIN), Infos.report(byAlert ? 9 : 3));
        g.hears(Infos.report(3));
        for (int i = 3; i < 16; i++) {
            suspended(g, false).pass(1);
            suspended(g, true).hears(Infos.report(i + 1 & 15));
        }
        return g;
    }

    private static void newFramesAreNotMarked() {
        Check.sentence("each may be MARKED (a new frame is not, whatever the last one of its number was)");
        for (boolean byAlert : new boolean[] {false, true}) {
            window("none", roundAfterMarked(byAlert), ACTIVE, 0, 0, 0);
            LoneGround.sends("numbers 0 and 1", () -> suspended(roundAfterMarked(byAlert), false),
                frame(16), frame(17), NONE);
            LoneGround g = suspended(roundAfterMarked(byAlert), false);
            g.pass(1);
            window("number 0", g, ACTIVE, 1, 1, 0);
            g.pass(1);
            window("number 1", g, ACTIVE, 2, 2, 0);
        }
    }

    private static void directiveFirst() {
        Check.sentence("Step 6: if the directive is due: .. it is due no more");
        LoneGround.sends("before what goes past the order", () -> {
            LoneGround g = confirmed(4);
            g.link.put(0, 0, 3, true);
            g.link.suspend(1, true);
            g.isToHear(Infos.report(4 | LOCKED));
            g.link.suspend(1, false);
            return g;
        }, Infos.unlock(), Infos.past(Infos.METADATA, 1, 0, 3), Infos.past(Infos.EOF, 1, 0, 0), NONE);
    }

    private static void noneIsSent() {
        Check.sentence("If there is none: no block is sent.");
        LoneGround.sends("an object without transactions", () -> new LoneGround(1), NONE, NONE);
        FarLink x = new FarLink(1);
        x.noise(true, 3);
        x.outage(true, 1);
        x.run(20);
        Check.due("sent(true)", x.sent(true), 0);
        x.put(0, 0, 0, true);
        x.run(2);
        Check.due("noise and outage waited for the first block, missing", x.missing(0), -1);
        Check.due("noise and outage waited for the first block, faults", x.faults(true), 0);
        x.run(1);
        Check.due("the second block is heard, missing", x.missing(0), 0x1FFFF);
        Check.due("the second block is heard, faults", x.faults(true), 0);
    }

    private static void windowAnswer() {
        Check.sentence("window: The state .., plus 4 times NEXT, plus 64 times .. UNCONFIRMED, plus 512 times .. MARKED.");
        Check.due("the least", ground().link.window(), 0);
        Check.due("NEXT 15, seven, six MARKED", unconfirmed(15, 7).hears(Infos.report(8 | AGAIN)).link.window(),
            4 * 15 + 64 * 7 + 512 * 6);
        Check.due("NEXT 15, UNLOCKING", unlocking(15).link.window(), 61);
        Check.due("NEXT 15, SETTING", setting(15).link.window(), 62);
    }

    public static void main(String[] args) {
        begin();
        atMostSeven();
        fullButForThePast();
        nextWraps();
        pastHasNoNumber();
        reportInTheWindow();
        reportOutOfTheWindow();
        reportLocked();
        unlockingEnds();
        settingIsUnlocking();
        settingEnds();
        alertDrops();
        alertCount();
        alertEndsRecovering();
        againWithNoneLeft();
        againMarksAll();
        againWhileRecovering();
        recoveringEnds();
        againFourTimes();
        confirmedCountsAnew();
        markedFirst();
        newFramesAreNotMarked();
        directiveFirst();
        noneIsSent();
        windowAnswer();
        Check.end();
    }
}
