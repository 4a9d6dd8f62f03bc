/** The boundary cases of "The craft's files", each sentence by a test of its own; their clocks have ClocksEdgesTest. */
public final class CraftFilesEdgesTest {
    private static final int MIN = Integer.MIN_VALUE;
    private static final int MAX = Integer.MAX_VALUE;
    private static final int ALL = 0x3FFFF;
    private static final int METADATA_BIT = 1 << 16;
    private static final int EOF_BIT = 1 << 17;
    private static final int OPEN = 0;
    private static final int CLOSED = 8;
    private static final long NO_PDU = Infos.report(0);

    private static LoneCraft craft() {
        return new LoneCraft(1);
    }

    /** Most tests use record 3. */
    private static long metadata(int position, int word) {
        return Infos.past(Infos.METADATA, 3, position, word);
    }

    private static long data(int position, int word) {
        return Infos.past(Infos.DATA, 3, position, word);
    }

    private static long eof(int position, int word) {
        return Infos.past(Infos.EOF, 3, position, word);
    }

    private static long cancel() {
        return Infos.past(Infos.CANCEL, 3, 0, 0);
    }

    private static long done() {
        return Infos.past(Infos.DONE, 3, 0, 0);
    }

    private static long got(int t) {
        return Infos.down(0, Infos.GOT, t, 0);
    }

    private static long lack(int mask) {
        return Infos.down(0, Infos.LACK, 3, mask);
    }

    private static long finished(int t, int condition) {
        return Infos.down(0, Infos.FINISHED, t, condition);
    }

    private static void outcome(String what, LoneCraft c, int want) {
        Check.due(what + ", outcome(true, 3)", c.link.outcome(true, 3), want);
    }

    private static void missing(String what, LoneCraft c, int want) {
        Check.due(what + ", missing(3)", c.link.missing(3), want);
    }

    private static void stored(String what, LoneCraft c, int name, int... words) {
        Check.due(what + ", stored(" + name + ", -1)", c.link.stored(name, -1), words.length);
        for (int k = 0; k < 16; k++) {
            Check.due(what + ", stored(" + name + ", " + k + ")", c.link.stored(name, k),
                k < words.length ? words[k] : 0);
        }
    }

    private static void kindsThatMakeARecord() {
        Check.sentence("A PDU of kind 1 to 4 makes it, OPEN, if there is none");
        for (int kind = 1; kind <= 4; kind++) {
            for (int t : new int[] {0, 1, 14, 15}) {
                LoneCraft c = craft().hears(Infos.past(kind, t, 0, 0));
                for (int other = 0; other < 16; other++) {
                    int want = other != t ? -1 : kind == 4 ? 5 : OPEN;
                    Check.due("kind " + kind + " for " + t + ", outcome of " + other,
                        c.link.outcome(true, other), want);
                }
            }
        }
        for (int kind = 1; kind <= 3; kind++) {
            LoneCraft c = craft().hears(Infos.past(kind, 3, 255, -1));
            outcome("not taken, kind " + kind, c, OPEN);
            missing("not taken, kind " + kind, c, ALL);
        }
    }

    private static void kindsThatAreNotLookedAt() {
        Check.sentence("DONE without a record and other kinds are not looked at.");
        for (int kind : new int[] {0, 5, 6, 7, 8, 9, 10, 11, 12, 13, 14, 15}) {
            LoneCraft c = craft().hears(Infos.past(kind, 3, 0, 0));
            outcome("kind " + kind, c, -1);
            missing("kind " + kind, c, -1);
            LoneCraft.sends("kind " + kind, () -> craft().isToHear(Infos.past(kind, 3, 0, 0)), NO_PDU, NO_PDU);
        }
        for (int kind : new int[] {0, 6, 7, 8, 15}) {
            LoneCraft c = craft().hears(data(0, 1), Infos.past(kind, 3, 1, 1));
            outcome("OPEN, kind " + kind, c, OPEN);
            missing("OPEN, kind " + kind, c, ALL ^ 1);
            outcome("ENDING, kind " + kind, craft().hears(cancel(), Infos.past(kind, 3, 1, 1)), 5);
        }
    }

    private static void metadataPosition() {
        Check.sentence("METADATA is taken if .. position is at most 16");
        for (int position : new int[] {0, 1, 15, 16}) {
            missing("position " + position, craft().hears(metadata(position, 0)), ALL ^ METADATA_BIT);
        }
        for (int position : new int[] {17, 18, 32, 127, 128, 255}) {
            LoneCraft c = craft().hears(metadata(position, 0));
            missing("position " + position, c, ALL);
            outcome("position " + position, c, OPEN);
            missing("a better one after position " + position, c.hears(metadata(16, 0)), ALL ^ METADATA_BIT);
        }
    }

    private static void metadataWord() {
        Check.sentence("METADATA is taken if .. the word is 0 .. 3");
        for (int name = 0; name <= 3; name++) {
            LoneCraft c = craft().hears(metadata(1, name), data(0, 7), eof(1, 7));
            for (int other = 0; other <= 3; other++) {
                stored("name " + name, c, other, other == name ? new int[] {7} : new int[0]);
            }
        }
        for (int word : new int[] {-1, 4, 5, 7, 256, MIN, MAX, MIN + 1}) {
            LoneCraft c = craft().hears(metadata(0, word));
            missing("word " + word, c, ALL);
            outcome("word " + word, c, OPEN);
            missing("a better one after word " + word, c.hears(metadata(0, 3)), ALL ^ METADATA_BIT);
        }
    }

    private static void metadataOnce() {
        Check.sentence("METADATA is taken if none was");
        LoneCraft c = craft().hears(metadata(1, 1), metadata(2, 2), data(0, 7), eof(1, 7));
        outcome("the first one's length", c, 1);
        stored("the first one's name", c, 1, 7);
        stored("the first one's name", c, 2);
    }

    private static void dataPosition() {
        Check.sentence("DATA is taken if position is at most 15");
        for (int position = 0; position <= 15; position++) {
            LoneCraft c = craft().hears(data(position, 9));
            missing("position " + position, c, ALL ^ 1 << position);
            Check.due("taken(3, " + position + ")", c.link.taken(3, position), 9);
        }
        for (int position : new int[] {16, 17, 31, 32, 48, 127, 128, 144, 255}) {
            LoneCraft c = craft().hears(data(position, 9));
            missing("position " + position, c, ALL);
            for (int k = 0; k < 16; k++) {
                Check.due("position " + position + ", taken(3, " + k + ")", c.link.taken(3, k), 0);
            }
        }
    }

    private static void dataOnce() {
        Check.sentence("DATA is taken if .. that word was not taken");
        for (int k : new int[] {0, 15}) {
            LoneCraft c = craft().hears(data(k, 0), data(k, 9));
            Check.due("a word 0 is taken, too", c.link.taken(3, k), 0);
            missing("a word 0 is taken, too", c, ALL ^ 1 << k);
            LoneCraft d = craft().hears(data(k, MIN), data(k, MAX));
            Check.due("the first one", d.link.taken(3, k), MIN);
        }
        LoneCraft e = craft().hears(data(0, 5), Infos.past(Infos.DATA, 4, 0, 6));
        Check.due("another record has its own", e.link.taken(4, 0), 6);
        Check.due("another record has its own", e.link.taken(3, 0), 5);
    }

    private static void eofPosition() {
        Check.sentence("EOF is taken if .. position is at most 16");
        for (int position : new int[] {0, 1, 15, 16}) {
            missing("position " + position, craft().hears(eof(position, 0)), ALL ^ EOF_BIT);
        }
        for (int position : new int[] {17, 18, 32, 127, 128, 255}) {
            LoneCraft c = craft().hears(eof(position, 0));
            missing("position " + position, c, ALL);
            outcome("position " + position, c, OPEN);
            missing("a better one after position " + position, c.hears(eof(16, 0)), ALL ^ EOF_BIT);
        }
    }

    private static void eofOnce() {
        Check.sentence("EOF is taken if none was");
        outcome("the first one's position", craft().hears(eof(1, 7), eof(0, 7), metadata(1, 0), data(0, 7)), 1);
        outcome("the first one's word", craft().hears(eof(1, 7), eof(1, 8), metadata(1, 0), data(0, 7)), 1);
        outcome("the second one's word", craft().hears(eof(1, 7), eof(1, 8), metadata(1, 0), data(0, 8)), 2);
    }

    private static void cancelEnds() {
        Check.sentence("CANCEL ends it with condition 5 (one that it made just now, too).");
        outcome("made just now", craft().hears(cancel()), 5);
        missing("made just now", craft().hears(cancel()), ALL);
        outcome("OPEN", craft().hears(data(0, 1), cancel()), 5);
        missing("OPEN", craft().hears(data(0, 1), cancel()), ALL ^ 1);
        outcome("ENDING", craft().hears(metadata(0, 0), eof(0, 0), cancel()), 1);
        outcome("CLOSED", craft().hears(metadata(0, 0), eof(0, 0), done(), cancel()), CLOSED + 1);
        LoneCraft.sends("it OWES a FINISHED, too", () -> craft().isToHear(cancel()), got(3), finished(3, 5), NO_PDU);
    }

    private static void oweAGot() {
        Check.sentence("EOF and CANCEL (whatever the state, also if not taken) make it OWE a GOT.");
        long[] both = {eof(0, 0), cancel()};
        for (long info : both) {
            LoneCraft.sends("made just now", () -> craft().isToHear(info), got(3));
            LoneCraft.sends("OPEN", () -> craft().hears(data(0, 1)).isToHear(info), got(3));
            LoneCraft.sends("OPEN with EOF", () -> craft().hears(eof(1, 0)).isToHear(info), got(3));
            LoneCraft.sends("ENDING",
                () -> craft().hears(metadata(0, 0), eof(0, 0), data(9, 9)).isToHear(info), got(3), NO_PDU);
            LoneCraft.sends("CLOSED",
                () -> craft().hears(metadata(0, 0), eof(0, 0), done()).isToHear(info), got(3), NO_PDU);
        }
        LoneCraft.sends("EOF with position 17", () -> craft().isToHear(eof(17, 0)), got(3), NO_PDU);
        LoneCraft.sends("EOF with position 255", () -> craft().isToHear(eof(255, 0)), got(3), NO_PDU);
        LoneCraft.sends("METADATA does not", () -> craft().isToHear(metadata(0, 0)), NO_PDU);
        LoneCraft.sends("DATA does not", () -> craft().isToHear(data(0, 0)), NO_PDU);
        LoneCraft.sends("DONE does not", () -> craft().hears(data(0, 0)).isToHear(done()), NO_PDU);
    }

    private static void fill(LoneCraft c, int words, int but) {
        for (int k = 0; k < words; k++) {
            if (k != but) {
                c.send(data(k, k + 1));
            }
        }
    }

    private static void wholeWithAllWords() {
        Check.sentence("METADATA and EOF and all words below EOF's position have been taken, it is WHOLE");
        for (int length : new int[] {0, 1, 2, 15, 16}) {
            int sum = length * (length + 1) / 2;
            for (int but = -1; but < length; but++) {
                LoneCraft c = craft().hears(metadata(length, 1));
                fill(c, length, but);
                c.hears(eof(length, sum));
                outcome("length " + length + " but word " + but, c, but < 0 ? 1 : OPEN);
                Check.due("stored", c.link.stored(1, -1), but < 0 ? length : 0);
            }
            LoneCraft d = craft();
            fill(d, length, -1);
            d.hears(eof(length, sum));
            outcome("length " + length + " but METADATA", d, OPEN);
            LoneCraft e = craft().hears(metadata(length, 1));
            fill(e, length, -1);
            e.pass(1);
            outcome("length " + length + " but EOF", e, OPEN);
        }
    }

    private static void wholeByWhatCameLast() {
        Check.sentence("When METADATA or DATA or EOF was taken, and then");
        outcome("by EOF", craft().hears(metadata(1, 0), data(0, 7), eof(1, 7)), 1);
        outcome("by DATA", craft().hears(eof(1, 7), metadata(1, 0), data(0, 7)), 1);
        outcome("by METADATA", craft().hears(data(0, 7), eof(1, 7), metadata(1, 0)), 1);
        LoneCraft.sends("by DATA, no GOT",
            () -> craft().hears(eof(1, 7), metadata(1, 0)).isToHear(data(0, 7)), finished(3, 1), NO_PDU);
        LoneCraft.sends("by METADATA, no GOT",
            () -> craft().hears(data(0, 7), eof(1, 7)).hears(data(9, 9)).isToHear(metadata(1, 0)),
            finished(3, 1), NO_PDU);
    }

    private static void lengthsDiffer() {
        Check.sentence("if both positions are equal .. else it ends with condition 2 (positions)");
        int[][] pairs = {{0, 1}, {1, 0}, {1, 2}, {2, 1}, {15, 2}, {16, 1}, {16, 0}, {0, 2}};
        for (int[] pair : pairs) {
            LoneCraft c = craft().hears(metadata(pair[0], 2), data(0, 0), data(1, 0), eof(pair[1], 0));
            outcome("METADATA's " + pair[0] + ", EOF's " + pair[1], c, 2);
            stored("METADATA's " + pair[0] + ", EOF's " + pair[1], c, 2);
        }
        for (int length = 0; length <= 2; length++) {
            LoneCraft c = craft().hears(metadata(length, 2), data(0, 0), data(1, 0), eof(length, 0));
            outcome("both " + length, c, 1);
            stored("both " + length, c, 2, new int[length]);
        }
    }

    private static void sumsDiffer() {
        Check.sentence("and the wrapped sum of the words below is the EOF's word .. else it ends with condition 2");
        int[][] sums = {{MAX, 1, MIN}, {MIN, MIN, 0}, {MIN, -1, MAX}, {MAX, MAX, -2}, {-1, 1, 0}, {0, 0, 0}};
        for (int[] sum : sums) {
            for (int off = -1; off <= 1; off++) {
                LoneCraft c = craft().hears(metadata(2, 0), data(0, sum[0]), data(1, sum[1]), eof(2, sum[2] + off));
                outcome("sum " + sum[2] + ", off " + off, c, off == 0 ? 1 : 2);
                stored("sum " + sum[2] + ", off " + off, c, 0,
                    off == 0 ? new int[] {sum[0], sum[1]} : new int[0]);
            }
        }
        LoneCraft d = craft().hears(metadata(1, 0), data(1, 5), data(15, 5), data(0, 7), eof(1, 7));
        outcome("words above EOF's position don't count", d, 1);
        stored("words above EOF's position don't count", d, 0, 7);
    }

    private static void storedOnlyWhenGood() {
        Check.sentence("the file of that name in the craft's store becomes these words, and it ends with condition 1");
        long[] first = {metadata(2, 1), data(0, 5), data(1, 6), eof(2, 11)};
        stored("not before it is WHOLE", craft().hears(first[0], first[1], first[2]), 1);
        stored("as soon as it is WHOLE", craft().hears(first), 1, 5, 6);
        LoneCraft worse = craft().hears(first).hears(Infos.past(Infos.METADATA, 4, 0, 1),
            Infos.past(Infos.EOF, 4, 0, 1));
        Check.due("condition 2", worse.link.outcome(true, 4), 2);
        stored("condition 2 leaves it", worse, 1, 5, 6);
        LoneCraft cancelled = craft().hears(first).hears(Infos.past(Infos.METADATA, 4, 0, 1),
            Infos.past(Infos.CANCEL, 4, 0, 0));
        stored("condition 5 leaves it", cancelled, 1, 5, 6);
        LoneCraft shorter = craft().hears(first).hears(Infos.past(Infos.METADATA, 4, 1, 1),
            Infos.past(Infos.DATA, 4, 0, 9), Infos.past(Infos.EOF, 4, 1, 9));
        stored("a shorter one", shorter, 1, 9);
        LoneCraft empty = craft().hears(first).hears(Infos.past(Infos.METADATA, 4, 0, 1),
            Infos.past(Infos.EOF, 4, 0, 0));
        stored("an empty one", empty, 1);
    }

    private static void storeStaysAsItWas() {
        Check.sentence("the file of that name in the craft's store becomes these words (by nothing else)");
        long[] first = {metadata(2, 0), data(0, 5), data(1, 6), eof(2, 11)};
        long[] others = {metadata(0, 0), metadata(17, 0), metadata(0, 4), data(0, 9), data(16, 9), eof(1, 9), eof(17, 9),
            cancel(), done(), Infos.past(0, 3, 0, 0), Infos.past(6, 3, 0, 0)};
        for (int i = 0; i < others.length; i++) {
            // Of record 4, not of record 3.
            long other = others[i] ^ 7L << 40;
            stored("PDU " + i + " of a new record", craft().hears(first).hears(other), 0, 5, 6);
            LoneCraft open = craft().hears(first).hears(Infos.past(Infos.DATA, 4, 0, 9), other);
            stored("PDU " + i + " of an OPEN one", open, 0, 5, 6);
            LoneCraft ending = craft().hears(first).hears(Infos.past(Infos.CANCEL, 4, 0, 0), other);
            stored("PDU " + i + " of an ENDING one", ending, 0, 5, 6);
        }
        // Record 3 is stored, then record 4 in its place: nothing that comes for record 3 brings its words back.
        LoneCraft c = craft().hears(first).hears(Infos.past(Infos.METADATA, 4, 0, 0), Infos.past(Infos.EOF, 4, 0, 0));
        stored("in its place", c, 0);
        for (long other : others) {
            stored("in its place still", c.hears(other), 0);
        }
    }

    private static void eofOwesALack() {
        Check.sentence("When it is EOF that was taken just now, and the record is not WHOLE, it OWES a LACK");
        LoneCraft.sends("EOF", () -> craft().hears(metadata(1, 0)).isToHear(eof(1, 0)), got(3), lack(1), NO_PDU);
        LoneCraft.sends("EOF, WHOLE",
            () -> craft().hears(metadata(0, 0)).isToHear(eof(0, 0)), got(3), finished(3, 1), NO_PDU);
        LoneCraft.sends("EOF that is not taken",
            () -> craft().hears(metadata(1, 0), eof(1, 0)).hears(data(9, 9)).isToHear(eof(1, 0)), got(3), NO_PDU);
        LoneCraft.sends("DATA after EOF",
            () -> craft().hears(eof(2, 0)).hears(data(9, 9)).isToHear(data(0, 0)), NO_PDU, NO_PDU);
        LoneCraft.sends("METADATA after EOF",
            () -> craft().hears(eof(2, 0)).hears(data(9, 9)).isToHear(metadata(2, 0)), NO_PDU, NO_PDU);
    }

    private static void lackMask() {
        Check.sentence("A LACK's mask says what of METADATA and of the words below EOF's position was not taken by now.");
        int[] lengths = {0, 1, 15, 16};
        for (int length : lengths) {
            LoneCraft.sends("nothing else was taken, EOF's position " + length,
                () -> craft().isToHear(eof(length, 0)), got(3), lack(METADATA_BIT | (1 << length) - 1));
        }
        for (int length : new int[] {1, 15, 16}) {
            LoneCraft.sends("METADATA was taken, EOF's position " + length,
                () -> craft().hears(metadata(0, 0)).isToHear(eof(length, 0)), got(3), lack((1 << length) - 1));
        }
        LoneCraft.sends("first and last word",
            () -> craft().hears(data(0, 0), data(15, 0)).isToHear(eof(16, 0)), got(3), lack(METADATA_BIT | 0x7FFE));
        LoneCraft.sends("by now: a word",
            () -> craft().send(eof(2, 0)).send(data(1, 0)), lack(METADATA_BIT | 1));
        LoneCraft.sends("by now: METADATA",
            () -> craft().send(eof(2, 0)).send(metadata(2, 0)), lack(3));
    }

    private static void endingOwesNoLack() {
        Check.sentence("ENDING with a condition: it OWES a FINISHED and no LACK");
        LoneCraft.sends("WHOLE in the tick after EOF",
            () -> craft().hears(metadata(1, 0)).send(eof(1, 7)).send(data(0, 7)), finished(3, 1), NO_PDU, NO_PDU);
        LoneCraft.sends("WHOLE with another sum in the tick after EOF",
            () -> craft().hears(metadata(1, 0)).send(eof(1, 7)).send(data(0, 8)), finished(3, 2), NO_PDU, NO_PDU);
        LoneCraft.sends("CANCEL in the tick after EOF",
            () -> craft().hears(metadata(1, 0)).send(eof(1, 7)).send(cancel()), got(3), finished(3, 5), NO_PDU);
    }

    private static void doneCloses() {
        Check.sentence("DONE makes an ENDING record CLOSED.");
        for (long last : new long[] {eof(0, 0), eof(0, 1), cancel()}) {
            int condition = last == cancel() ? 5 : last == eof(0, 0) ? 1 : 2;
            LoneCraft c = craft().hears(metadata(0, 0), last);
            outcome("ENDING", c, condition);
            c.send(done());
            Check.due("run answers it", c.pass(1), 1);
            outcome("CLOSED", c, CLOSED + condition);
            c.send(done());
            Check.due("run answers no second DONE", c.pass(1), 0);
            outcome("CLOSED", c, CLOSED + condition);
        }
        LoneCraft d = craft().hears(metadata(0, 0)).send(done());
        Check.due("an OPEN one is not CLOSED", d.pass(1), 0);
        outcome("an OPEN one is not CLOSED", d, OPEN);
        LoneCraft e = craft().hears(metadata(0, 0), eof(0, 0), Infos.past(Infos.DONE, 4, 0, 0));
        outcome("DONE of another", e, 1);
    }

    private static void closedTakesNothing() {
        Check.sentence("While it is OPEN every PDU of kind 1 to 5 .. (not while ENDING or CLOSED)");
        LoneCraft ending = craft().hears(cancel(), metadata(0, 0), data(0, 1), eof(0, 0));
        outcome("ENDING", ending, 5);
        missing("ENDING", ending, ALL);
        LoneCraft closed = craft().hears(cancel(), done(), metadata(0, 0), data(0, 1), eof(0, 0));
        outcome("CLOSED", closed, CLOSED + 5);
        missing("CLOSED", closed, ALL);
        Check.due("CLOSED, taken", closed.link.taken(3, 0), 0);
    }

    private static void closedOwesAGotStill() {
        Check.sentence("A CLOSED one OWES no LACK and no FINISHED (a GOT still).");
        LoneCraft.sends("no FINISHED", () -> craft().send(cancel()).send(done()), NO_PDU, NO_PDU, NO_PDU);
        // Record 2 keeps record 3 from its GOT until DONE has come.
        LoneCraft.sends("a GOT still",
            () -> craft().send(Infos.past(Infos.CANCEL, 2, 0, 0)).send(cancel()).send(done()), got(3), NO_PDU, NO_PDU);
        LoneCraft c = craft().send(Infos.past(Infos.CANCEL, 2, 0, 0)).hears(cancel(), done());
        outcome("a GOT still", c, CLOSED + 5);
    }

    /** Record 3 OWES a LACK again in tick 9T - 1 after its EOF; from then on record 2 OWES a GOT in each tick. */
    private static LoneCraft keptFromItsLack(int ticks) {
        LoneCraft c = craft().hears(eof(1, 0));
        c.pass(9 * 8 - 3);
        for (int i = 0; i < ticks; i++) {
            c.send(Infos.past(Infos.EOF, 2, 17, 0));
        }
        return c;
    }

    private static void closedOwesNoLack() {
        Check.sentence("A CLOSED one OWES no LACK");
        // IDLE runs out 24 ticks after the LACK became owed.
        LoneCraft.sends("still OPEN", () -> keptFromItsLack(23), got(2), lack(METADATA_BIT | 1), NO_PDU);
        LoneCraft.sends("CLOSED in the tick after", () -> keptFromItsLack(24), got(2), NO_PDU, NO_PDU);
        LoneCraft.sends("CLOSED", () -> keptFromItsLack(25), got(2), NO_PDU, NO_PDU);
        LoneCraft c = keptFromItsLack(25);
        outcome("not yet", c, OPEN);
        c.pass(1);
        outcome("CLOSED", c, CLOSED + 4);
    }

    private static void leastTransactionFirst() {
        Check.sentence("the PDU that is owed: of the least transaction that owes one");
        long high = Infos.past(Infos.CANCEL, 15, 0, 0);
        long low = Infos.past(Infos.CANCEL, 0, 0, 0);
        LoneCraft.sends("15 before 0 is there", () -> craft().isToHear(high), got(15), finished(15, 5), NO_PDU);
        LoneCraft.sends("0 before 15", () -> craft().send(high).send(low),
            got(0), finished(0, 5), finished(15, 5), NO_PDU);
        LoneCraft.sends("FINISHED of 0 before GOT of 15", () -> craft().send(low).send(high),
            finished(0, 5), got(15), finished(15, 5), NO_PDU);
    }

    private static void gotBeforeLackBeforeFinished() {
        Check.sentence("GOT before LACK before FINISHED; it is owed no more then.");
        LoneCraft.sends("GOT before LACK", () -> craft().isToHear(eof(1, 0)),
            got(3), lack(METADATA_BIT | 1), NO_PDU, NO_PDU);
        LoneCraft.sends("a second GOT before LACK", () -> craft().send(eof(1, 0)).send(eof(1, 0)),
            got(3), lack(METADATA_BIT | 1), NO_PDU, NO_PDU);
        LoneCraft.sends("GOT before FINISHED", () -> craft().isToHear(cancel()), got(3), finished(3, 5), NO_PDU);
        LoneCraft.sends("a second GOT before FINISHED", () -> craft().send(cancel()).send(cancel()),
            got(3), finished(3, 5), NO_PDU, NO_PDU);
    }

    private static void noPduIsOwed() {
        Check.sentence("Kinds: 0 none; others 0");
        LoneCraft.sends("at first", CraftFilesEdgesTest::craft, NO_PDU, NO_PDU);
        LoneCraft.sends("a record that owes nothing", () -> craft().hears(data(3, 3)), NO_PDU);
    }

    public static void main(String[] args) {
        kindsThatMakeARecord();
        kindsThatAreNotLookedAt();
        metadataPosition();
        metadataWord();
        metadataOnce();
        dataPosition();
        dataOnce();
        eofPosition();
        eofOnce();
        cancelEnds();
        oweAGot();
        wholeWithAllWords();
        wholeByWhatCameLast();
        lengthsDiffer();
        sumsDiffer();
        storedOnlyWhenGood();
        storeStaysAsItWas();
        eofOwesALack();
        lackMask();
        endingOwesNoLack();
        doneCloses();
        closedTakesNothing();
        closedOwesAGotStill();
        closedOwesNoLack();
        leastTransactionFirst();
        gotBeforeLackBeforeFinished();
        noPduIsOwed();
        Check.end();
    }
}
