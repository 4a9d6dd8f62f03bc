import java.util.Random;

/**
 * Promises 1 to 18: long runs of calls, each answer held against the model. Both codes are linear,
 * so noise that is the difference of two code blocks turns any info into another one unseen: by
 * that the runs come to frames and PDUs that neither side would send.
 */
public final class ModelTest {
    private static final int RUNS = 6000;

    /** An object is used for at most 512 calls, those that only ask included. */
    private static final int MOST_CALLS = 512;

    /** What compareAll asks. */
    private static final int CALLS_AT_THE_END = 202;

    private static FarLink link;
    private static Model model;
    private static Random random;
    private static int style;
    private static int calls;
    private static String where;

    private static void due(String call, long got, long want) {
        calls++;
        Check.due(where + call, got, want);
    }

    private static void due(String call, boolean got, boolean want) {
        due(call, got ? 1L : 0L, want ? 1L : 0L);
    }

    private static boolean chance(int percent) {
        return random.nextInt(100) < percent;
    }

    /** Mostly from 0 to the last, at times one of the wrong numbers beside. */
    private static int number(int last) {
        if (chance(4)) {
            int[] wrong = {-1, last + 1, Integer.MIN_VALUE, Integer.MAX_VALUE, last + 17, -17};
            return wrong[random.nextInt(wrong.length)];
        }
        return random.nextInt(last + 1);
    }

    private static int word() {
        return chance(30) ? random.nextInt(7) - 3 : random.nextInt();
    }

    private static void write() {
        int f = number(3);
        int k = number(15);
        int v = word();
        due("write", link.write(f, k, v), model.write(f, k, v));
    }

    private static void put() {
        int f = number(3);
        int length = chance(60) ? random.nextInt(4) : number(16);
        int name = number(3);
        boolean past = random.nextBoolean();
        due("put", link.put(f, length, name, past), model.put(f, length, name, past));
    }

    private static void cancel() {
        int t = number(chance(70) ? 5 : 15);
        due("cancel", link.cancel(t), model.cancel(t));
    }

    private static void suspend() {
        int t = number(chance(70) ? 5 : 15);
        boolean on = random.nextBoolean();
        due("suspend", link.suspend(t, on), model.suspend(t, on));
    }

    private static long field(int place, int width) {
        return (random.nextLong() & (1L << width) - 1) << place;
    }

    private static long differenceUp() {
        switch (random.nextInt(9)) {
            case 0: return field(52, 2);
            case 1: return field(48, 4);
            case 2: return 8L << 48;
            case 3: return field(44, 3);
            case 4: return field(44, 4) | field(52, 4);
            case 5: return field(40, 4) | field(44, 3);
            case 6: return field(32, chance(70) ? 4 : 8);
            case 7: return field(0, chance(50) ? 2 : 32);
            default: return 1L << 52 | field(44, 3) | field(40, 2);
        }
    }

    private static long differenceDown() {
        switch (random.nextInt(8)) {
            case 0: return field(0, 2);
            case 1: return field(0, 4);
            case 2: return 1L << 4;
            case 3: return 1L << 5;
            case 4: return field(8, 2) | field(12, 1);
            case 5: return field(8, 4) | field(12, 4) | field(16, 3);
            case 6: return field(16, 24) | field(8, 2);
            default: return field(0, 44);
        }
    }

    private static void noise() {
        boolean up = random.nextBoolean();
        long mask = 0;
        if (chance(style == 0 ? 20 : 70)) {
            long difference = up ? differenceUp() : differenceDown();
            mask = Codes.encode(up, difference) ^ Codes.encode(up, 0);
        }
        if (chance(30)) {
            mask ^= 1L << random.nextInt(64);
        }
        if (chance(15)) {
            mask ^= 15L << 4 * random.nextInt(16);
        }
        if (chance(5)) {
            mask = random.nextLong();
        }
        link.noise(up, mask);
        model.noise(up, mask);
        calls++;
    }

    private static void outage() {
        boolean up = random.nextBoolean();
        int n = chance(80) ? random.nextInt(12) : number(200);
        due("outage", link.outage(up, n), model.outage(up, n));
    }

    private static void run() {
        int n = chance(style == 1 ? 95 : 75) ? random.nextInt(4) : chance(70) ? random.nextInt(40) : number(100);
        due("run(" + n + ")", link.run(n), model.run(n));
    }

    private static void oneCall() {
        int which = random.nextInt(100);
        if (which < 50) {
            run();
        } else if (which < 50 + (style == 2 ? 5 : 25)) {
            noise();
        } else if (which < 78) {
            outage();
        } else if (which < 84) {
            write();
        } else if (which < 90) {
            put();
        } else if (which < 92) {
            cancel();
        } else {
            suspend();
        }
    }

    private static void compareOne() {
        int t = number(15);
        int k = number(15);
        switch (random.nextInt(13)) {
            case 0: due("time", link.time(), model.time()); break;
            case 1: due("report", link.report(), model.report()); break;
            case 2: due("window", link.window(), model.window()); break;
            case 3: due("alerts", link.alerts(), model.alerts()); break;
            case 4: due("sent up", link.sent(true), model.sent(true)); break;
            case 5: due("sent down", link.sent(false), model.sent(false)); break;
            case 6: due("faults up", link.faults(true), model.faults(true)); break;
            case 7: due("faults down", link.faults(false), model.faults(false)); break;
            case 8: due("outcome at the ground", link.outcome(false, t), model.outcome(false, t)); break;
            case 9: due("outcome at the craft", link.outcome(true, t), model.outcome(true, t)); break;
            case 10: due("missing", link.missing(t), model.missing(t)); break;
            case 11: due("taken", link.taken(t, k), model.taken(t, k)); break;
            default: due("stored", link.stored(t & 3, k - 1), model.stored(t & 3, k - 1)); break;
        }
    }

    private static void compareLink() {
        due("time", link.time(), model.time());
        due("report", link.report(), model.report());
        due("window", link.window(), model.window());
        due("alerts", link.alerts(), model.alerts());
        due("sent up", link.sent(true), model.sent(true));
        due("sent down", link.sent(false), model.sent(false));
        due("faults up", link.faults(true), model.faults(true));
        due("faults down", link.faults(false), model.faults(false));
    }

    private static void compareAll() {
        compareLink();
        for (int t = -1; t <= 16; t++) {
            due("outcome at the ground", link.outcome(false, t), model.outcome(false, t));
            due("outcome at the craft", link.outcome(true, t), model.outcome(true, t));
            due("missing", link.missing(t), model.missing(t));
        }
        int t = random.nextInt(18) - 1;
        for (int k = -2; k <= 17; k++) {
            due("taken", link.taken(t, k), model.taken(t, k));
            for (int name = -1; name <= 4; name++) {
                due("stored", link.stored(name, k), model.stored(name, k));
            }
        }
    }

    private static final String[] DUE_TO_BE_SEEN = {
        "again without effect, recovering false, rest false",
        "again without effect, recovering true, rest true", "again, confirmed false", "again, confirmed true",
        "alert: again too often", "alert: clock ran out too often", "alert: report locked",
        "alert: report out of the window", "cancel again 2", "cancel again 4", "clock marks 2", "clock marks 4",
        "confirmed 1", "confirmed 7", "directive again while SETTING", "directive again while UNLOCKING",
        "done without a record", "ended with 1", "ended with 2", "ended with 3", "ended with 4", "ended with 5",
        "ended with 0", "ended with more", "eof again 2", "eof again 4", "finished again 2", "finished again 4",
        "finished not answered", "frame ahead 1", "frame ahead 7", "frame behind 1", "frame behind 7",
        "frame expected", "frame locks", "frame past", "frame past while locked", "frame while locked",
        "heard down clean", "heard down mended", "heard down spoilt", "heard up clean", "heard up mended",
        "heard up spoilt", "kind 1 down while cancelled", "kind 1 down while ended", "kind 1 down while under way",
        "kind 1 down while under way, suspended", "kind 1 not taken", "kind 1 while CLOSED",
        "kind 1 while ENDING", "kind 2 down while cancelled", "kind 2 down while ended",
        "kind 2 down while under way, suspended", "kind 2 not taken", "kind 2 while CLOSED",
        "kind 2 while ENDING", "kind 3 down while cancelled, suspended", "kind 3 down while ended",
        "kind 3 down while under way, suspended", "kind 3 not taken", "kind 3 while CLOSED",
        "kind 3 while ENDING", "kind 4 while CLOSED", "kind 4 while ENDING", "kind 5 not taken",
        "kind 5 while CLOSED", "kind other down while under way", "lack again 2", "lack again 4",
        "lengths differ", "locked while setting", "not set yet, again true, number true", "nothing sent",
        "other kind up", "other type", "record closed with 4 owing []", "record ends with 1",
        "record ends with 2", "record ends with 3", "record ends with 5", "record ends with 1 owing a lack",
        "record made by kind 1", "record made by kind 2", "record made by kind 3", "record made by kind 4",
        "sends of [1GOT, 2LACK] while OPEN", "sends of [1GOT, 3FINISHED] while ENDING",
        "sends of [1GOT] while CLOSED", "sent in an outage", "set", "set while locked", "set with again",
        "still locked", "sums differ", "unlock", "unlock while locked", "unlock with again", "unlocked",
        "whole by kind 1", "whole by kind 2", "whole by kind 3"
    };

    private static void oneRun(int seed) {
        random = new Random(seed);
        style = random.nextInt(4);
        int delay = chance(5) ? random.nextInt() : 1 + random.nextInt(5);
        int asking = random.nextInt(3);
        link = new FarLink(delay);
        model = new Model(delay);
        calls = 0;
        // A round asks twice at most.
        while (calls + 3 + CALLS_AT_THE_END <= MOST_CALLS && Check.wrong() == 0) {
            where = "seed " + seed + ", call " + (calls + 1) + ": ";
            oneCall();
            for (int i = 0; i < asking; i++) {
                compareOne();
            }
        }
        compareAll();
    }

    public static void main(String[] args) {
        for (int seed = 0; seed < RUNS && Check.wrong() == 0; seed++) {
            oneRun(seed);
            Check.due("calls of an object, at most " + MOST_CALLS, calls <= MOST_CALLS, true);
        }
        if (args.length > 0) {
            Model.SEEN.forEach(System.out::println);
        }
        for (String sentence : DUE_TO_BE_SEEN) {
            Check.due("came to '" + sentence + "'", Model.SEEN.contains(sentence), true);
        }
        Check.end();
    }
}
