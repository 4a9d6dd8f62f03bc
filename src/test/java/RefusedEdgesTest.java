import java.util.Random;

/**
 * "A call that is refused changes nothing": of two objects that have the same calls, one has a
 * refused call before each of them, too; in the end both must answer the same to everything. There
 * is a test for each call that can be refused and each reason for it.
 */
public final class RefusedEdgesTest {
    private static final int MIN = Integer.MIN_VALUE;
    private static final int MAX = Integer.MAX_VALUE;
    private static final int SCRIPTS = 60;

    /** With these and all that is asked in the end an object stays below 512 calls. */
    private static final int STEPS = 32;

    /** Makes a call that is refused, if there is one now, and tells whether it was made. */
    private interface Refused {
        boolean call(Twins twins);
    }

    /** Two objects with the same calls; what is refused has only the first one. */
    private static final class Twins {
        final FarLink first;
        private final FarLink second;
        final Random random;
        int begun;
        private final boolean[] cancelled = new boolean[16];
        private final boolean[] suspended = new boolean[16];

        Twins(int seed) {
            random = new Random(seed);
            int delay = 1 + random.nextInt(5);
            first = new FarLink(delay);
            second = new FarLink(delay);
            for (int i = 0; i < 4; i++) {
                write();
            }
            int puts = seed % 2 == 0 ? 3 : 16;
            for (int i = 0; i < puts; i++) {
                put();
            }
        }

        /** A transaction that is as asked for; -1 when there is none. */
        int transaction(boolean ended, Boolean isCancelled, Boolean isSuspended) {
            int from = begun == 0 ? 0 : random.nextInt(begun);
            for (int i = 0; i < begun; i++) {
                int t = (from + i) % begun;
                boolean fits = isCancelled == null || cancelled[t] == isCancelled;
                fits &= isSuspended == null || suspended[t] == isSuspended;
                // What was cancelled or suspended says nothing of an ended one: so few are asked.
                if (fits && i < 3 && first.outcome(false, t) >= 8 == ended) {
                    return t;
                }
            }
            return -1;
        }

        private void same(String call, long of, long other) {
            Check.due(call + " as without the refused call", of, other);
        }

        private void same(String call, boolean of, boolean other) {
            Check.due(call + " as without the refused call", of, other);
        }

        private void write() {
            int f = random.nextInt(4);
            int k = random.nextInt(3);
            int v = random.nextInt();
            same("write", first.write(f, k, v), second.write(f, k, v));
        }

        private void put() {
            int f = random.nextInt(4);
            int length = random.nextInt(4);
            int name = random.nextInt(4);
            boolean past = random.nextBoolean();
            if (begun < 16) {
                same("put", first.put(f, length, name, past), second.put(f, length, name, past));
                begun++;
            }
        }

        private void cancel() {
            int t = random.nextInt(begun);
            boolean done = second.cancel(t);
            same("cancel", first.cancel(t), done);
            cancelled[t] |= done;
        }

        private void suspend() {
            int t = random.nextInt(begun);
            boolean on = random.nextInt(3) < 2;
            boolean done = second.suspend(t, on);
            same("suspend", first.suspend(t, on), done);
            suspended[t] = done ? on : suspended[t];
        }

        private void noise() {
            boolean up = random.nextBoolean();
            long mask = 1L << random.nextInt(60) | 1L << random.nextInt(60);
            first.noise(up, mask);
            second.noise(up, mask);
        }

        private void outage() {
            boolean up = random.nextBoolean();
            int n = random.nextInt(20);
            same("outage", first.outage(up, n), second.outage(up, n));
        }

        private void run() {
            int n = random.nextInt(8) == 0 ? 100 : random.nextInt(12);
            same("run", first.run(n), second.run(n));
        }

        void step() {
            switch (random.nextInt(12)) {
                case 0: write(); break;
                case 1: put(); break;
                case 2: cancel(); break;
                case 3: case 4: suspend(); break;
                case 5: noise(); break;
                case 6: outage(); break;
                default: run(); break;
            }
        }

        void compare() {
            same("time", first.time(), second.time());
            same("report", first.report(), second.report());
            same("window", first.window(), second.window());
            same("alerts", first.alerts(), second.alerts());
            for (boolean one : new boolean[] {true, false}) {
                same("sent", first.sent(one), second.sent(one));
                same("faults", first.faults(one), second.faults(one));
                for (int t = 0; t < 16; t++) {
                    same("outcome", first.outcome(one, t), second.outcome(one, t));
                }
            }
            for (int t = 0; t < 16; t++) {
                same("missing", first.missing(t), second.missing(t));
                // No file is longer than 3 words here.
                for (int k = 0; k < 4; k++) {
                    same("taken", first.taken(t, k), second.taken(t, k));
                }
            }
            for (int name = 0; name < 4; name++) {
                for (int k = -1; k < 16; k++) {
                    same("stored", first.stored(name, k), second.stored(name, k));
                }
            }
        }
    }

    private static void changesNothing(String call, Refused refused) {
        Check.sentence("A call that is refused changes nothing: " + call);
        int made = 0;
        for (int seed = 0; seed < SCRIPTS; seed++) {
            Twins twins = new Twins(seed);
            for (int i = 0; i < STEPS; i++) {
                if (refused.call(twins)) {
                    made++;
                }
                twins.step();
            }
            twins.compare();
        }
        Check.due("the call was made often enough", made >= SCRIPTS, true);
    }

    private static boolean isFalse(String call, boolean answer) {
        Check.due(call, answer, false);
        return true;
    }

    private static boolean isMinusOne(String call, int answer) {
        Check.due(call, answer, -1);
        return true;
    }

    private static void writes() {
        for (int f : new int[] {-1, 4, MIN, MAX}) {
            String call = "write of file " + f;
            changesNothing(call, w -> isFalse(call, w.first.write(f, w.random.nextInt(3), w.random.nextInt())));
        }
        for (int k : new int[] {-1, 16, MIN, MAX}) {
            String call = "write of word " + k;
            changesNothing(call, w -> isFalse(call, w.first.write(w.random.nextInt(4), k, w.random.nextInt())));
        }
    }

    private static void puts() {
        for (int n : new int[] {-1, 4, MIN, MAX}) {
            String file = "put of file " + n;
            changesNothing(file, w -> isMinusOne(file, w.first.put(n, 1, 1, w.random.nextBoolean())));
            String name = "put under the name " + n;
            changesNothing(name, w -> isMinusOne(name, w.first.put(1, 1, n, w.random.nextBoolean())));
        }
        for (int length : new int[] {-1, 17, MIN, MAX}) {
            String call = "put of length " + length;
            changesNothing(call, w -> isMinusOne(call, w.first.put(1, length, 1, w.random.nextBoolean())));
        }
        String call = "put when there were 16";
        changesNothing(call, w -> w.begun == 16 && isMinusOne(call, w.first.put(1, 1, 1, w.random.nextBoolean())));
    }

    private static void cancels() {
        for (int t : new int[] {-1, 16, MIN, MAX}) {
            String call = "cancel of " + t;
            changesNothing(call, w -> isFalse(call, w.first.cancel(t)));
        }
        String next = "cancel of the next that is to begin";
        changesNothing(next, w -> isFalse(next, w.first.cancel(w.begun)));
        String ended = "cancel of an ENDED one";
        changesNothing(ended, w -> {
            int t = w.transaction(true, null, null);
            return t >= 0 && isFalse(ended, w.first.cancel(t));
        });
        String twice = "cancel of one that was cancelled before";
        changesNothing(twice, w -> {
            int t = w.transaction(false, true, null);
            return t >= 0 && isFalse(twice, w.first.cancel(t));
        });
    }

    /** CANCEL goes in the ticks 1, 25, 49 and 73; it is given up in tick 97, whatever was refused between. */
    private static void cancelTwiceLeavesTries() {
        Check.sentence("A call that is refused changes nothing: cancel of one that was cancelled before (TRIES)");
        LoneGround g = new LoneGround(1);
        g.link.put(0, 0, 0, true);
        g.link.cancel(0);
        for (int tick = 0; tick < 96; tick += 12) {
            Check.due("not ENDED yet, run", g.pass(12), 0);
            isFalse("cancel(0)", g.link.cancel(0));
        }
        Check.due("CANCEL four times, sent(true)", g.link.sent(true), 4);
        Check.due("ENDED, run", g.pass(1), 1);
        Check.due("ENDED, outcome(false, 0)", g.link.outcome(false, 0), 11);
    }

    /** GOT is heard in tick 3: IDLE runs out in tick 98. */
    private static void cancelTwiceLeavesAnswered() {
        Check.sentence("A call that is refused changes nothing: cancel of one that was cancelled before (ANSWERED)");
        LoneGround g = new LoneGround(1);
        g.link.put(0, 0, 0, true);
        g.link.cancel(0);
        g.pass(1);
        g.hears(Infos.down(0, Infos.GOT, 0, 0));
        for (int i = 0; i < 94; i++) {
            isFalse("cancel(0)", g.link.cancel(0));
            Check.due("not ENDED yet, run", g.pass(1), 0);
        }
        Check.due("ENDED, run", g.pass(1), 1);
        Check.due("ENDED, outcome(false, 0)", g.link.outcome(false, 0), 12);
        Check.due("CANCEL once, sent(true)", g.link.sent(true), 1);
    }

    private static void suspends() {
        for (boolean on : new boolean[] {true, false}) {
            for (int t : new int[] {-1, 16, MIN, MAX}) {
                String call = "suspend of " + t + ", " + on;
                changesNothing(call, w -> isFalse(call, w.first.suspend(t, on)));
            }
            String next = "suspend of the next that is to begin, " + on;
            changesNothing(next, w -> isFalse(next, w.first.suspend(w.begun, on)));
            String ended = "suspend of an ENDED one, " + on;
            changesNothing(ended, w -> {
                int t = w.transaction(true, null, null);
                return t >= 0 && isFalse(ended, w.first.suspend(t, on));
            });
            String already = "suspend of one that is so already, " + on;
            changesNothing(already, w -> {
                int t = w.transaction(false, null, on);
                return t >= 0 && isFalse(already, w.first.suspend(t, on));
            });
        }
    }

    private static void outages() {
        for (boolean up : new boolean[] {true, false}) {
            for (int n : new int[] {-1, 201, MIN, MAX}) {
                String call = "outage of " + n + ", " + (up ? "up" : "down");
                changesNothing(call, w -> isFalse(call, w.first.outage(up, n)));
            }
        }
    }

    private static void runs() {
        for (int n : new int[] {-1, 101, MIN, MAX}) {
            String call = "run of " + n;
            changesNothing(call, w -> isMinusOne(call, w.first.run(n)));
        }
    }

    public static void main(String[] args) {
        writes();
        puts();
        cancels();
        cancelTwiceLeavesTries();
        cancelTwiceLeavesAnswered();
        suspends();
        outages();
        runs();
        Check.end();
    }
}
