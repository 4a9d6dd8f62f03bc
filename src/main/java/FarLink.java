/**
 * A link over a long way between the ground and a craft, which carries files of words up.
 * The words used here (record, transaction, due, owed, marked, ..) are those of the document.
 */
public final class FarLink {
    private static final int FILES = 4;
    private static final int WORDS = 16;
    private static final int TRANSACTIONS = 16;
    private static final int LONGEST_DELAY = 5;
    private static final int LONGEST_RUN = 100;
    private static final int LONGEST_OUTAGE = 200;

    /** In the place of a block or an info: both are never below 0. */
    private static final long NONE = -1L;

    /** Numbers of frames and transactions have four bits, and so has every other small field. */
    private static final int FOUR_BITS = 15;

    private static final int METADATA = 1;
    private static final int DATA = 2;
    private static final int EOF = 3;
    private static final int CANCEL = 4;
    private static final int DONE = 5;

    private static final int GOT = 1;
    private static final int LACK = 2;
    private static final int FINISHED = 3;

    /** Sets of parts of a file are ints in which bit k is word k; these bits are the other parts. */
    private static final int METADATA_BIT = 1 << 16;
    private static final int EOF_BIT = 1 << 17;
    private static final int DONE_BIT = 1 << 18;

    private static final int CONDITION_GOOD = 1;
    private static final int CONDITION_WRONG = 2;
    private static final int CONDITION_LIMIT = 3;
    private static final int CONDITION_IDLE = 4;
    private static final int CONDITION_CANCELLED = 5;

    /** Added to an outcome or condition that is final. */
    private static final int FINAL = 8;

    private static final int MOST_TRIES = 4;
    private static final int CLOCK_SPANS = 3;
    private static final int IDLE_SPANS = 12;

    private final int[][] files = new int[FILES][WORDS];
    private final Way upWay;
    private final Way downWay;
    private final Ground ground;
    private final Craft craft;
    private int now;

    public FarLink(int delay) {
        int held = Math.max(1, Math.min(LONGEST_DELAY, delay));
        int span = 2 * held + 6;
        upWay = new Way(true, held);
        downWay = new Way(false, held);
        ground = new Ground(span);
        craft = new Craft(span);
    }

    public boolean write(int f, int k, int v) {
        if (!isBelow(f, FILES) || !isBelow(k, WORDS)) {
            return false;
        }
        files[f][k] = v;
        return true;
    }

    public int put(int f, int length, int name, boolean past) {
        if (!isBelow(f, FILES) || !isBelow(length, WORDS + 1) || !isBelow(name, FILES)) {
            return -1;
        }
        return ground.begin(files[f], length, name, past);
    }

    public boolean cancel(int t) {
        return ground.has(t) && ground.transactions[t].becomeCancelled();
    }

    public boolean suspend(int t, boolean on) {
        return ground.has(t) && ground.transactions[t].becomeSuspended(on);
    }

    public void noise(boolean up, long mask) {
        way(up).turnNext(mask);
    }

    public boolean outage(boolean up, int n) {
        if (!isBelow(n, LONGEST_OUTAGE + 1)) {
            return false;
        }
        way(up).outageLeft = n;
        return true;
    }

    public int run(int n) {
        if (!isBelow(n, LONGEST_RUN + 1)) {
            return -1;
        }
        int before = ground.countEnded() + craft.countClosed();
        for (int i = 0; i < n; i++) {
            tick();
        }
        return ground.countEnded() + craft.countClosed() - before;
    }

    public int time() {
        return now;
    }

    public int outcome(boolean craft, int t) {
        if (craft) {
            return isBelow(t, TRANSACTIONS) ? this.craft.records[t].result() : -1;
        }
        return ground.has(t) ? ground.transactions[t].result() : -1;
    }

    public int taken(int t, int k) {
        if (!isBelow(t, TRANSACTIONS) || !isBelow(k, WORDS)) {
            return 0;
        }
        // A word that was not taken is still the 0 that it was made with.
        return craft.records[t].words[k];
    }

    public int missing(int t) {
        if (!isBelow(t, TRANSACTIONS) || craft.records[t].state == CraftRecord.ABSENT) {
            return -1;
        }
        return craft.records[t].missingParts();
    }

    public int stored(int name, int k) {
        return isBelow(name, FILES) ? craft.storedAt(name, k) : 0;
    }

    public int report() {
        return craft.frames.reportBits();
    }

    public int window() {
        return ground.frames.summary();
    }

    public int alerts() {
        return ground.frames.alertCount;
    }

    public int sent(boolean up) {
        return way(up).sentCount;
    }

    public int faults(boolean up) {
        return way(up).spoiltCount + 65536 * way(up).mendedCount;
    }

    public long encode(boolean up, long info) {
        return up ? UpCode.blockOf(info) : DownCode.blockOf(info);
    }

    public long decode(boolean up, long block) {
        return up ? UpCode.infoOf(block) : DownCode.infoOf(block);
    }

    private Way way(boolean up) {
        return up ? upWay : downWay;
    }

    private void tick() {
        now++;
        craft.hear(upWay.hear(now));
        craft.stepClocks();
        downWay.send(now, craft.nextInfo());
        ground.hear(downWay.hear(now));
        ground.stepClocks();
        long info = ground.nextInfo();
        if (info != NONE) {
            upWay.send(now, info);
        }
    }

    private static boolean isBelow(int value, int bound) {
        return value >= 0 && value < bound;
    }

    /** The set of the words below a length, which is at most 16. */
    private static int wordsBelow(int length) {
        return (1 << length) - 1;
    }

    private static int sumBelow(int length, int[] words) {
        int sum = 0;
        for (int k = 0; k < length && k < words.length; k++) {
            sum += words[k];
        }
        return sum;
    }

    private static int fourBitsAt(long bits, int place) {
        return (int) (bits >>> place) & FOUR_BITS;
    }

    /** Division of polynomials, four bits of the info at a step. */
    private static final class Division {
        private Division() {
        }

        /**
         * The rest of an info, times x to the number of check bits, divided by a generator.
         * Entry v of the table is the rest of the four bits v alone.
         */
        static int rest(long info, int infoBits, int checkBits, int[] table) {
            int kept = (1 << checkBits) - 1;
            int rest = 0;
            for (int place = infoBits - 4; place >= 0; place -= 4) {
                int leaving = rest >>> (checkBits - 4);
                int next = (leaving ^ fourBitsAt(info, place)) & FOUR_BITS;
                rest = ((rest << 4) & kept) ^ table[next];
            }
            return rest;
        }
    }

    private static final class UpCode {
        private static final int CHECK_BITS = 7;
        private static final int INFO_BITS = 56;
        private static final int BLOCK_BITS = CHECK_BITS + INFO_BITS;
        private static final int ALL_CHECKS = (1 << CHECK_BITS) - 1;
        private static final long ALL_INFO = (1L << INFO_BITS) - 1;
        private static final long ALL_BITS = (1L << BLOCK_BITS) - 1;

        /** x^7 + x^6 + x^2 + 1. */
        private static final int GENERATOR = 0xC5;

        /** Entry v: v times x^7, divided by the generator: the rest. */
        private static final int[] RESTS = {
            0x00, 0x45, 0x4F, 0x0A, 0x5B, 0x1E, 0x14, 0x51,
            0x73, 0x36, 0x3C, 0x79, 0x28, 0x6D, 0x67, 0x22
        };

        private UpCode() {
        }

        static long blockOf(long info) {
            long used = info & ALL_INFO;
            int rest = Division.rest(used, INFO_BITS, CHECK_BITS, RESTS);
            return used << CHECK_BITS | (rest ^ ALL_CHECKS);
        }

        /** 0 for a code block, and only for one. */
        static int syndromeOf(long block) {
            int rest = Division.rest(block >>> CHECK_BITS, INFO_BITS, CHECK_BITS, RESTS);
            return rest ^ ALL_CHECKS ^ (int) (block & ALL_CHECKS);
        }

        static long infoOf(long block) {
            long info = (block >>> CHECK_BITS) & ALL_INFO;
            int syndrome = syndromeOf(block);
            if (syndrome == 0) {
                return info;
            }
            int power = 1;
            for (int k = 0; k < BLOCK_BITS; k++) {
                if (power == syndrome) {
                    return info ^ ((1L << k) >>> CHECK_BITS);
                }
                power = timesX(power);
            }
            return NONE;
        }

        private static int timesX(int rest) {
            int shifted = rest << 1;
            return shifted > ALL_CHECKS ? shifted ^ GENERATOR : shifted;
        }
    }

    private static final class DownCode {
        private static final int CHECK_BITS = 16;
        private static final int INFO_BITS = 44;
        private static final int ALL_CHECKS = (1 << CHECK_BITS) - 1;
        private static final long ALL_INFO = (1L << INFO_BITS) - 1;
        private static final long ALL_BITS = (1L << (CHECK_BITS + INFO_BITS)) - 1;
        private static final int CHECK_SYMBOLS = 4;
        private static final int SYMBOLS = 15;

        /** Entry k: a^k. The powers of a repeat after 15. */
        private static final int[] POWERS = {1, 2, 4, 8, 3, 6, 12, 11, 5, 10, 7, 14, 15, 13, 9};

        /** Entry s: the k below 15 for which a^k is s; 0 has none. */
        private static final int[] LOGS = {0, 0, 1, 4, 2, 8, 5, 10, 3, 14, 9, 7, 6, 13, 11, 12};

        /**
         * Entry s: s times x^4, divided by (x + a)(x + a^2)(x + a^3)(x + a^4), which is
         * x^4 + 13 x^3 + 12 x^2 + 8 x + 7 with its factors as symbols: the rest, as four symbols.
         */
        private static final int[] RESTS = {
            0x0000, 0xDC87, 0x9B3E, 0x47B9, 0x156F, 0xC9E8, 0x8E51, 0x52D6,
            0x2ACD, 0xF64A, 0xB1F3, 0x6D74, 0x3FA2, 0xE325, 0xA49C, 0x781B
        };

        private DownCode() {
        }

        static long blockOf(long info) {
            long used = info & ALL_INFO;
            return used << CHECK_BITS | Division.rest(used, INFO_BITS, CHECK_BITS, RESTS);
        }

        /** The rest of the whole block by the generator: 0 for a code block, and only for one. */
        static int syndromeOf(long block) {
            int rest = Division.rest(block >>> CHECK_BITS, INFO_BITS, CHECK_BITS, RESTS);
            return rest ^ (int) (block & ALL_CHECKS);
        }

        static long infoOf(long block) {
            int rest = syndromeOf(block);
            if (rest == 0) {
                return (block >>> CHECK_BITS) & ALL_INFO;
            }
            // At the zeros of the generator a block has the value that its rest has.
            int s1 = valueAt(1, rest);
            int s2 = valueAt(2, rest);
            int s3 = valueAt(3, rest);
            int s4 = valueAt(4, rest);
            int det = times(s1, s3) ^ times(s2, s2);
            long errors = det == 0 ? oneError(s1, s2, s4) : twoErrors(s1, s2, s3, s4, det);
            return errors == NONE ? NONE : ((block ^ errors) >>> CHECK_BITS) & ALL_INFO;
        }

        /** With det 0, s1, s2, s3 go on by one ratio already; s4 is still to be looked at. */
        private static long oneError(int s1, int s2, int s4) {
            int ratio = over(s2, s1);
            int third = times(s2, ratio);
            if (ratio == 0 || times(third, ratio) != s4) {
                return NONE;
            }
            return errorAt(ratio, over(s1, ratio));
        }

        /** The places p and q of two errors are the zeros of x^2 + (p + q) x + p q. */
        private static long twoErrors(int s1, int s2, int s3, int s4, int det) {
            int sum = over(times(s1, s4) ^ times(s2, s3), det);
            int product = over(times(s2, s4) ^ times(s3, s3), det);
            for (int k = 0; k < SYMBOLS; k++) {
                int p = POWERS[k];
                int q = p ^ sum;
                if (q != 0 && q != p && times(p, q) == product) {
                    int atP = over(times(s1, q) ^ s2, times(p, sum));
                    int atQ = over(s1 ^ times(atP, p), q);
                    return errorAt(p, atP) ^ errorAt(q, atQ);
                }
            }
            return NONE;
        }

        private static long errorAt(int place, int error) {
            return (long) error << (4 * LOGS[place & FOUR_BITS]);
        }

        private static int valueAt(int exponent, int rest) {
            int value = 0;
            for (int k = 0; k < CHECK_SYMBOLS; k++) {
                value ^= times(fourBitsAt(rest, 4 * k), POWERS[exponent * k % SYMBOLS]);
            }
            return value;
        }

        private static int times(int s, int r) {
            if (s == 0 || r == 0) {
                return 0;
            }
            return POWERS[(LOGS[s & FOUR_BITS] + LOGS[r & FOUR_BITS]) % SYMBOLS];
        }

        /** 0 where there is no quotient. */
        private static int over(int s, int r) {
            if (s == 0 || r == 0) {
                return 0;
            }
            return POWERS[(LOGS[s & FOUR_BITS] + SYMBOLS - LOGS[r & FOUR_BITS]) % SYMBOLS];
        }
    }

    /** One way of the link: the blocks that are under way on it, and what befalls them. */
    private static final class Way {
        /** A power of 2 above the longest delay: a slot has been heard before it is used again. */
        private static final int SLOTS = 8;
        private static final int LAST_SLOT = SLOTS - 1;

        private final boolean isUp;
        private final int delay;
        private final long[] blocks = new long[SLOTS];
        private long turned;
        private int outageLeft;
        private int sentCount;
        private int spoiltCount;
        private int mendedCount;

        Way(boolean isUp, int delay) {
            this.isUp = isUp;
            this.delay = delay;
            for (int i = 0; i < SLOTS; i++) {
                blocks[i] = NONE;
            }
        }

        void turnNext(long mask) {
            turned ^= mask & (isUp ? UpCode.ALL_BITS : DownCode.ALL_BITS);
        }

        void send(int time, long info) {
            long block = isUp ? UpCode.blockOf(info) : DownCode.blockOf(info);
            sentCount++;
            if (outageLeft > 0) {
                outageLeft--;
            } else {
                blocks[time & LAST_SLOT] = block ^ turned;
            }
            turned = 0;
        }

        /** The info of the block that arrives; NONE when none arrives or it is spoilt. */
        long hear(int time) {
            int slot = (time - delay) & LAST_SLOT;
            long block = blocks[slot];
            blocks[slot] = NONE;
            if (block == NONE) {
                return NONE;
            }
            long info = isUp ? UpCode.infoOf(block) : DownCode.infoOf(block);
            if (info == NONE) {
                spoiltCount++;
            } else if ((isUp ? UpCode.syndromeOf(block) : DownCode.syndromeOf(block)) != 0) {
                mendedCount++;
            }
            return info;
        }
    }

    private static final class Craft {
        private final CraftFrames frames = new CraftFrames();
        private final CraftRecord[] records = new CraftRecord[TRANSACTIONS];
        private final int[] storedLengths = new int[FILES];
        private final int[][] storedWords = new int[FILES][WORDS];

        Craft(int span) {
            for (int t = 0; t < TRANSACTIONS; t++) {
                records[t] = new CraftRecord(span);
            }
        }

        void hear(long info) {
            if (info == NONE || !frames.giveOn(fourBitsAt(info, 52), fourBitsAt(info, 48))) {
                return;
            }
            CraftRecord record = records[fourBitsAt(info, 40)];
            int position = (int) (info >>> 32) & 255;
            if (record.hear(fourBitsAt(info, 44), position, (int) info)) {
                keep(record);
            }
        }

        void stepClocks() {
            for (int t = 0; t < TRANSACTIONS; t++) {
                records[t].stepClocks();
            }
        }

        long nextInfo() {
            for (int t = 0; t < TRANSACTIONS; t++) {
                if (records[t].owesAny()) {
                    return records[t].payOne() | (long) t << 12 | frames.reportBits();
                }
            }
            return frames.reportBits();
        }

        int countClosed() {
            int closed = 0;
            for (int t = 0; t < TRANSACTIONS; t++) {
                if (records[t].state == CraftRecord.CLOSED) {
                    closed++;
                }
            }
            return closed;
        }

        int storedAt(int name, int k) {
            if (k == -1) {
                return storedLengths[name];
            }
            return isBelow(k, storedLengths[name]) ? storedWords[name][k] : 0;
        }

        private void keep(CraftRecord record) {
            storedLengths[record.name] = record.length;
            for (int k = 0; k < record.length; k++) {
                storedWords[record.name][k] = record.words[k];
            }
        }
    }

    private static final class CraftFrames {
        private static final int IN_ORDER = 0;
        private static final int PAST_ORDER = 1;
        private static final int UNLOCK = 2;
        private static final int SET = 3;

        private int expected;
        private boolean isLocked;
        private boolean wantsAgain;

        /** Hears a frame; tells whether its PDU is given on. */
        boolean giveOn(int type, int number) {
            switch (type) {
                case IN_ORDER:
                    return !isLocked && giveOnInOrder(number);
                case PAST_ORDER:
                    return true;
                case UNLOCK:
                    isLocked = false;
                    wantsAgain = false;
                    return false;
                case SET:
                    if (!isLocked) {
                        expected = number;
                        wantsAgain = false;
                    }
                    return false;
                default:
                    return false;
            }
        }

        private boolean giveOnInOrder(int number) {
            int ahead = (number - expected) & FOUR_BITS;
            if (ahead == 0) {
                expected = (expected + 1) & FOUR_BITS;
                wantsAgain = false;
                return true;
            }
            if (ahead < 8) {
                wantsAgain = true;
            } else if (ahead == 8) {
                isLocked = true;
            }
            return false;
        }

        /** In the info of a block the report has the same bits as in the answer to a caller. */
        int reportBits() {
            return expected + (isLocked ? 16 : 0) + (wantsAgain ? 32 : 0);
        }
    }

    private static final class CraftRecord {
        private static final int ABSENT = 0;
        private static final int OPEN = 1;
        private static final int ENDING = 2;
        private static final int CLOSED = 3;
        private static final int ALL_PARTS = METADATA_BIT | EOF_BIT | 0xFFFF;

        private final int span;
        private final int[] words = new int[WORDS];
        private int state;
        private int condition;
        private int takenParts;
        private int length;
        private int name;
        private int eofLength;
        private int checksum;
        private int idle;
        private int clock;
        private int tries;
        private boolean owesGot;
        private boolean owesLack;
        private boolean owesFinished;

        CraftRecord(int span) {
            this.span = span;
        }

        /** Hears a PDU; tells whether the file became whole by it and is to be stored. */
        boolean hear(int kind, int position, int word) {
            if (!looksAt(kind)) {
                return false;
            }
            if (state == ABSENT) {
                state = OPEN;
            }
            if (kind == EOF || kind == CANCEL) {
                owesGot = true;
            }
            if (state == OPEN) {
                return hearOpen(kind, position, word);
            }
            if (state == ENDING && kind == DONE) {
                becomeClosed();
            }
            return false;
        }

        private boolean looksAt(int kind) {
            int last = state == ABSENT ? CANCEL : DONE;
            return kind >= METADATA && kind <= last;
        }

        private boolean hearOpen(int kind, int position, int word) {
            idle = IDLE_SPANS * span;
            if (kind == CANCEL) {
                endWith(CONDITION_CANCELLED);
                return false;
            }
            boolean isTaken = kind == METADATA && takeMetadata(position, word)
                || kind == DATA && takeData(position, word)
                || kind == EOF && takeEof(position, word);
            if (!isTaken) {
                return false;
            }
            if (lackingParts() == 0) {
                boolean isGood = length == eofLength && sumBelow(eofLength, words) == checksum;
                endWith(isGood ? CONDITION_GOOD : CONDITION_WRONG);
                return isGood;
            }
            if (kind == EOF) {
                tries = 1;
                askForParts();
            }
            return false;
        }

        private boolean takeMetadata(int position, int word) {
            if (has(METADATA_BIT) || position > WORDS || !isBelow(word, FILES)) {
                return false;
            }
            takenParts |= METADATA_BIT;
            length = position;
            name = word;
            tries = 1;
            return true;
        }

        private boolean takeData(int position, int word) {
            if (!isBelow(position, WORDS) || has(1 << position)) {
                return false;
            }
            takenParts |= 1 << position;
            words[position] = word;
            tries = 1;
            return true;
        }

        private boolean takeEof(int position, int word) {
            if (has(EOF_BIT) || position > WORDS) {
                return false;
            }
            takenParts |= EOF_BIT;
            eofLength = position;
            checksum = word;
            return true;
        }

        private boolean has(int part) {
            return (takenParts & part) != 0;
        }

        int missingParts() {
            return ALL_PARTS & ~takenParts;
        }

        /** What of the file must still come; it is whole when that is nothing. */
        private int lackingParts() {
            return missingParts() & (METADATA_BIT | EOF_BIT | wordsBelow(eofLength));
        }

        private void askForParts() {
            owesLack = true;
            clock = CLOCK_SPANS * span;
        }

        private void endWith(int newCondition) {
            state = ENDING;
            condition = newCondition;
            tries = 1;
            owesLack = false;
            tellFinished();
        }

        private void tellFinished() {
            owesFinished = true;
            clock = CLOCK_SPANS * span;
        }

        private void becomeClosed() {
            state = CLOSED;
            owesLack = false;
            owesFinished = false;
        }

        void stepClocks() {
            if (state == OPEN) {
                stepOpen();
            } else if (state == ENDING) {
                stepEnding();
            }
        }

        private void stepOpen() {
            idle--;
            if (idle == 0) {
                condition = CONDITION_IDLE;
                becomeClosed();
                return;
            }
            if (!has(EOF_BIT)) {
                return;
            }
            clock--;
            if (clock > 0) {
                return;
            }
            if (tries == MOST_TRIES) {
                endWith(CONDITION_LIMIT);
            } else {
                tries++;
                askForParts();
            }
        }

        private void stepEnding() {
            clock--;
            if (clock > 0) {
                return;
            }
            if (tries == MOST_TRIES) {
                becomeClosed();
            } else {
                tries++;
                tellFinished();
            }
        }

        boolean owesAny() {
            return owesGot || owesLack || owesFinished;
        }

        /** The PDU that is owed first, in the places of an info; it is owed no more. */
        long payOne() {
            if (owesGot) {
                owesGot = false;
                return GOT << 8;
            }
            if (owesLack) {
                owesLack = false;
                return LACK << 8 | (long) lackingParts() << 16;
            }
            owesFinished = false;
            return FINISHED << 8 | (long) condition << 16;
        }

        int result() {
            switch (state) {
                case OPEN:
                    return 0;
                case ENDING:
                    return condition;
                case CLOSED:
                    return FINAL + condition;
                default:
                    return -1;
            }
        }
    }

    private static final class Ground {
        private static final long PAST_ORDER = 1L << 52;

        private final GroundFrames frames;
        private final Transaction[] transactions = new Transaction[TRANSACTIONS];
        private int begun;

        Ground(int span) {
            frames = new GroundFrames(span);
            for (int t = 0; t < TRANSACTIONS; t++) {
                transactions[t] = new Transaction(t, span);
            }
        }

        boolean has(int t) {
            return isBelow(t, begun);
        }

        int begin(int[] file, int length, int name, boolean past) {
            if (begun >= TRANSACTIONS) {
                return -1;
            }
            transactions[begun].begin(file, length, name, past);
            begun++;
            return begun - 1;
        }

        void hear(long info) {
            if (info == NONE) {
                return;
            }
            frames.hear(fourBitsAt(info, 0), (info & 16) != 0, (info & 32) != 0);
            int t = fourBitsAt(info, 12);
            if (has(t)) {
                transactions[t].hear(fourBitsAt(info, 8), (int) (info >>> 16) & 0xFFFFFF);
            }
        }

        void stepClocks() {
            frames.stepClock();
            for (int t = 0; t < begun; t++) {
                transactions[t].stepClocks();
            }
        }

        /** The info of the block that is to be sent; NONE when there is none. */
        long nextInfo() {
            if (frames.isDirectiveDue) {
                return frames.sendDirective();
            }
            long again = frames.sendMarked();
            if (again != NONE) {
                return again;
            }
            boolean hasRoom = frames.hasRoom();
            for (int t = 0; t < begun; t++) {
                Transaction transaction = transactions[t];
                if (transaction.hasToSend() && transaction.isPast) {
                    return PAST_ORDER | transaction.nextPdu();
                }
                if (transaction.hasToSend() && hasRoom) {
                    return frames.sendInOrder(transaction.nextPdu());
                }
            }
            return NONE;
        }

        int countEnded() {
            int ended = 0;
            for (int t = 0; t < begun; t++) {
                if (transactions[t].isEnded) {
                    ended++;
                }
            }
            return ended;
        }
    }

    /**
     * The numbers of the unconfirmed frames go up to NEXT without a gap, so that NEXT and how many
     * there are tell them; what belongs to a frame stands at its number.
     */
    private static final class GroundFrames {
        private static final int ACTIVE = 0;
        private static final int UNLOCKING = 1;
        private static final int SETTING = 2;
        private static final int MOST_UNCONFIRMED = 7;
        private static final int MOST_COUNT = 4;
        private static final long UNLOCK = 2L << 52;
        private static final long SET = 3L << 52;

        private final int span;
        private final long[] infos = new long[FOUR_BITS + 1];
        private final boolean[] marks = new boolean[FOUR_BITS + 1];
        private int state = ACTIVE;
        private int next;
        private int unconfirmed;
        private int count = 1;
        private int clock;
        private int alertCount;
        private boolean isDirectiveDue;
        private boolean isRecovering;

        GroundFrames(int span) {
            this.span = span;
        }

        void hear(int expected, boolean locked, boolean again) {
            if (state == ACTIVE) {
                hearActive(expected, locked, again);
            } else if (state == UNLOCKING) {
                if (!locked) {
                    direct(SETTING);
                }
            } else if (locked) {
                direct(UNLOCKING);
            } else if (expected == next && !again) {
                state = ACTIVE;
                isDirectiveDue = false;
            }
        }

        private void hearActive(int expected, boolean locked, boolean again) {
            int confirmed = (expected - next + unconfirmed) & FOUR_BITS;
            if (locked) {
                alert(UNLOCKING);
            } else if (confirmed > unconfirmed) {
                alert(SETTING);
            } else {
                confirm(confirmed);
                if (!again) {
                    isRecovering = false;
                } else if (unconfirmed > 0 && (confirmed > 0 || !isRecovering)) {
                    recover(confirmed > 0);
                }
            }
        }

        private void confirm(int confirmed) {
            if (confirmed > 0) {
                unconfirmed -= confirmed;
                count = 1;
                clock = span;
            }
        }

        private void recover(boolean hasConfirmed) {
            if (!hasConfirmed && count == MOST_COUNT) {
                alert(SETTING);
                return;
            }
            if (!hasConfirmed) {
                count++;
            }
            markAll();
            isRecovering = true;
            clock = span;
        }

        private void alert(int newState) {
            alertCount++;
            unconfirmed = 0;
            count = 1;
            isRecovering = false;
            clock = span;
            state = newState;
            isDirectiveDue = true;
        }

        private void direct(int newState) {
            state = newState;
            isDirectiveDue = true;
        }

        void stepClock() {
            if (state == ACTIVE && unconfirmed == 0) {
                return;
            }
            clock--;
            if (clock > 0) {
                return;
            }
            clock = span;
            if (state != ACTIVE) {
                isDirectiveDue = true;
            } else if (count == MOST_COUNT) {
                alert(SETTING);
            } else {
                count++;
                markAll();
            }
        }

        boolean hasRoom() {
            return state == ACTIVE && unconfirmed < MOST_UNCONFIRMED;
        }

        long sendDirective() {
            isDirectiveDue = false;
            clock = span;
            return state == UNLOCKING ? UNLOCK : SET | (long) next << 48;
        }

        /** The oldest frame that is marked, once more; NONE when none is. */
        long sendMarked() {
            for (int age = unconfirmed; age > 0; age--) {
                int number = (next - age) & FOUR_BITS;
                if (marks[number]) {
                    marks[number] = false;
                    clock = span;
                    return infos[number];
                }
            }
            return NONE;
        }

        long sendInOrder(long pdu) {
            int number = next;
            infos[number] = pdu | (long) number << 48;
            marks[number] = false;
            next = (next + 1) & FOUR_BITS;
            unconfirmed++;
            clock = span;
            if (unconfirmed == 1) {
                count = 1;
            }
            return infos[number];
        }

        private void markAll() {
            for (int age = unconfirmed; age > 0; age--) {
                marks[(next - age) & FOUR_BITS] = true;
            }
        }

        /** Only unconfirmed frames count, and those there are only when active. */
        int countMarked() {
            int marked = 0;
            for (int age = unconfirmed; age > 0; age--) {
                if (marks[(next - age) & FOUR_BITS]) {
                    marked++;
                }
            }
            return marked;
        }

        int summary() {
            return state + 4 * next + 64 * unconfirmed + 512 * countMarked();
        }
    }

    private static final class Transaction {
        private final int number;
        private final int span;
        private final int[] words = new int[WORDS];
        private int length;
        private int name;
        private boolean isPast;

        /** The parts that are due; EOF's bit stands for CANCEL when cancelled. */
        private int due;
        private int tries;
        private int clock;
        private int idle;
        private int endOutcome;
        private boolean isAnswered;
        private boolean isCancelled;
        private boolean isSuspended;
        private boolean isEnded;

        Transaction(int number, int span) {
            this.number = number;
            this.span = span;
        }

        void begin(int[] file, int newLength, int newName, boolean past) {
            System.arraycopy(file, 0, words, 0, WORDS);
            length = newLength;
            name = newName;
            isPast = past;
            due = METADATA_BIT | EOF_BIT | wordsBelow(length);
            tries = 1;
        }

        boolean becomeCancelled() {
            if (isEnded || isCancelled) {
                return false;
            }
            isCancelled = true;
            due = EOF_BIT;
            tries = 1;
            isAnswered = false;
            return true;
        }

        boolean becomeSuspended(boolean on) {
            if (isEnded || isSuspended == on) {
                return false;
            }
            isSuspended = on;
            return true;
        }

        void hear(int kind, int mask) {
            if (kind < GOT || kind > FINISHED) {
                return;
            }
            idle = IDLE_SPANS * span;
            if (!isEnded) {
                hearUnderWay(kind, mask);
            }
            if (kind == FINISHED) {
                due |= DONE_BIT;
            }
        }

        private void hearUnderWay(int kind, int mask) {
            if (kind == GOT) {
                isAnswered = true;
            } else if (kind == FINISHED) {
                endWith(mask);
            } else if (!isCancelled) {
                due |= mask & (METADATA_BIT | wordsBelow(length));
            }
        }

        private void endWith(int outcome) {
            isEnded = true;
            endOutcome = outcome;
            isSuspended = false;
            due &= DONE_BIT;
        }

        void stepClocks() {
            if (isEnded || isSuspended) {
                return;
            }
            if (isAnswered) {
                stepIdle();
            } else if ((due & EOF_BIT) == 0) {
                // EOF or CANCEL is not due: so it was sent since it was made due last.
                stepClock();
            }
        }

        private void stepIdle() {
            idle--;
            if (idle == 0) {
                endWith(CONDITION_IDLE);
            }
        }

        private void stepClock() {
            clock--;
            if (clock > 0) {
                return;
            }
            if (tries == MOST_TRIES) {
                endWith(CONDITION_LIMIT);
            } else {
                tries++;
                due |= EOF_BIT;
            }
        }

        boolean hasToSend() {
            return due != 0 && !isSuspended;
        }

        /** What is due first, as the PDU of an info; it is due no more. */
        long nextPdu() {
            if ((due & DONE_BIT) != 0) {
                due &= ~DONE_BIT;
                return pdu(DONE, 0, 0);
            }
            if ((due & METADATA_BIT) != 0) {
                due &= ~METADATA_BIT;
                return pdu(METADATA, length, name);
            }
            int k = leastWordDue();
            if (k < WORDS) {
                due &= ~(1 << k);
                return pdu(DATA, k, words[k]);
            }
            due &= ~EOF_BIT;
            clock = CLOCK_SPANS * span;
            return isCancelled ? pdu(CANCEL, 0, 0) : pdu(EOF, length, sumBelow(length, words));
        }

        /** 16 when no word is due. */
        private int leastWordDue() {
            int k = 0;
            while (k < WORDS && (due & (1 << k)) == 0) {
                k++;
            }
            return k;
        }

        private long pdu(int kind, int position, int word) {
            long head = (long) kind << 12 | (long) number << 8 | position;
            return head << 32 | (word & 0xFFFFFFFFL);
        }

        int result() {
            return isEnded ? FINAL + endOutcome : 0;
        }
    }
}
