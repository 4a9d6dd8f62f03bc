import java.util.ArrayList;
import java.util.HashMap;
import java.util.List;
import java.util.Map;
import java.util.Set;
import java.util.TreeMap;
import java.util.TreeSet;

/**
 * The document once more, sentence by sentence and without a thought for speed or room, so that
 * long runs of calls can be held against it. It notes which sentences a run came to.
 */
final class Model {
    /** The sentences that any model came to so far. */
    static final Set<String> SEEN = new TreeSet<>();

    private static final class Frame {
        int number;
        long pdu;
        boolean marked;
    }

    private static final class Entry {
        String state = "OPEN";
        int condition;
        int idle;
        int clock;
        int tries;
        int[] metadata;
        int[] eof;
        final Map<Integer, Integer> data = new TreeMap<>();
        final Set<String> owes = new TreeSet<>();
    }

    private static final class Sending {
        int[] words;
        int length;
        int name;
        boolean past;
        boolean ended;
        int outcome;
        boolean cancelled;
        boolean suspended;
        boolean answered;
        boolean lastSent;
        int tries = 1;
        int clock;
        int idle;
        final Set<String> due = new TreeSet<>();
    }

    private static final class Channel {
        final Map<Integer, Long> sentAt = new HashMap<>();
        long noise;
        int outage;
        int sent;
        int spoilt;
        int mended;
    }

    private final int d;
    private final int t3;
    private final int t12;
    private final int span;
    private int time;
    private final int[][] files = new int[4][16];
    private final Channel up = new Channel();
    private final Channel down = new Channel();

    private int expected;
    private boolean locked;
    private boolean again;
    private final Map<Integer, Entry> entries = new TreeMap<>();
    private final Map<Integer, List<Integer>> store = new HashMap<>();

    private final List<Sending> sendings = new ArrayList<>();
    private int next;
    private final List<Frame> unconfirmed = new ArrayList<>();
    private String state = "ACTIVE";
    private boolean directive;
    private int count = 1;
    private boolean recovering;
    private int clock;
    private int alerts;
    private int ends;

    Model(int delay) {
        d = delay < 1 ? 1 : delay > 5 ? 5 : delay;
        span = 2 * d + 6;
        t3 = 3 * span;
        t12 = 12 * span;
    }

    private static void saw(String what) {
        SEEN.add(what);
    }

    // The calls.

    boolean write(int f, int k, int v) {
        if (f < 0 || f > 3 || k < 0 || k > 15) {
            return false;
        }
        files[f][k] = v;
        return true;
    }

    int put(int f, int length, int name, boolean past) {
        if (f < 0 || f > 3 || length < 0 || length > 16 || name < 0 || name > 3 || sendings.size() == 16) {
            return -1;
        }
        Sending s = new Sending();
        s.words = files[f].clone();
        s.length = length;
        s.name = name;
        s.past = past;
        s.due.add("METADATA");
        for (int k = 0; k < length; k++) {
            s.due.add("DATA" + k);
        }
        s.due.add("LAST");
        sendings.add(s);
        return sendings.size() - 1;
    }

    boolean cancel(int t) {
        if (t < 0 || t >= sendings.size() || sendings.get(t).ended || sendings.get(t).cancelled) {
            return false;
        }
        Sending s = sendings.get(t);
        s.cancelled = true;
        s.due.clear();
        s.due.add("LAST");
        s.lastSent = false;
        s.tries = 1;
        s.answered = false;
        return true;
    }

    boolean suspend(int t, boolean on) {
        if (t < 0 || t >= sendings.size() || sendings.get(t).ended || sendings.get(t).suspended == on) {
            return false;
        }
        sendings.get(t).suspended = on;
        return true;
    }

    void noise(boolean isUp, long mask) {
        if (isUp) {
            up.noise ^= mask & (1L << 63) - 1;
        } else {
            down.noise ^= mask & (1L << 60) - 1;
        }
    }

    boolean outage(boolean isUp, int n) {
        if (n < 0 || n > 200) {
            return false;
        }
        (isUp ? up : down).outage = n;
        return true;
    }

    int run(int n) {
        if (n < 0 || n > 100) {
            return -1;
        }
        ends = 0;
        for (int i = 0; i < n; i++) {
            tick();
        }
        return ends;
    }

    int time() {
        return time;
    }

    int outcome(boolean craft, int t) {
        if (craft) {
            Entry e = entries.get(t);
            return e == null ? -1 : e.state.equals("OPEN") ? 0 : e.condition + (e.state.equals("CLOSED") ? 8 : 0);
        }
        if (t < 0 || t >= sendings.size()) {
            return -1;
        }
        return sendings.get(t).ended ? 8 + sendings.get(t).outcome : 0;
    }

    int taken(int t, int k) {
        Entry e = entries.get(t);
        return e == null || !e.data.containsKey(k) ? 0 : e.data.get(k);
    }

    int missing(int t) {
        Entry e = entries.get(t);
        if (e == null) {
            return -1;
        }
        int answer = 0;
        for (int k = 0; k < 16; k++) {
            answer += e.data.containsKey(k) ? 0 : 1 << k;
        }
        return answer + (e.metadata == null ? 1 << 16 : 0) + (e.eof == null ? 1 << 17 : 0);
    }

    int stored(int name, int k) {
        List<Integer> file = store.get(name);
        if (file == null) {
            return 0;
        }
        return k == -1 ? file.size() : k >= 0 && k < file.size() ? file.get(k) : 0;
    }

    int report() {
        return expected + (locked ? 16 : 0) + (again ? 32 : 0);
    }

    int window() {
        int marked = 0;
        for (Frame frame : unconfirmed) {
            marked += frame.marked ? 1 : 0;
        }
        int number = state.equals("ACTIVE") ? 0 : state.equals("UNLOCKING") ? 1 : 2;
        return number + 4 * next + 64 * unconfirmed.size() + 512 * marked;
    }

    int alerts() {
        return alerts;
    }

    int sent(boolean isUp) {
        return (isUp ? up : down).sent;
    }

    int faults(boolean isUp) {
        Channel c = isUp ? up : down;
        return c.spoilt + 65536 * c.mended;
    }

    // A tick.

    private void tick() {
        time++;
        long heard = hear(true);
        if (heard >= 0) {
            craftHears(heard);
        }
        craftClocks();
        craftSends();
        heard = hear(false);
        if (heard >= 0) {
            groundHearsReport(heard);
            groundHearsPdu(heard);
        }
        groundFramesClock();
        groundFilesClocks();
        groundSends();
    }

    private long hear(boolean isUp) {
        Channel c = isUp ? up : down;
        Long block = c.sentAt.get(time - d);
        if (block == null) {
            return -1;
        }
        long info = Codes.decode(isUp, block);
        if (info < 0) {
            c.spoilt++;
        } else if (!Codes.isBlock(isUp, block)) {
            c.mended++;
        }
        saw("heard " + (isUp ? "up " : "down ")
            + (info < 0 ? "spoilt" : Codes.isBlock(isUp, block) ? "clean" : "mended"));
        return info;
    }

    private void send(boolean isUp, long info) {
        Channel c = isUp ? up : down;
        long block = Codes.encode(isUp, info) ^ c.noise;
        c.noise = 0;
        c.sent++;
        if (c.outage > 0) {
            c.outage--;
            saw("sent in an outage");
        } else {
            c.sentAt.put(time, block);
        }
    }

    private static int bits(long info, int from, int to) {
        return (int) (info >>> from & (1L << to - from + 1) - 1);
    }

    // The craft.

    private void craftHears(long info) {
        int type = bits(info, 52, 55);
        int number = bits(info, 48, 51);
        if (type == 0 && !locked) {
            int x = Math.floorMod(number - expected, 16);
            if (x == 0) {
                expected = (expected + 1) % 16;
                again = false;
                saw("frame expected");
                craftHearsPdu(info);
            } else if (x <= 7) {
                again = true;
                saw("frame ahead " + x);
            } else if (x == 8) {
                locked = true;
                saw("frame locks");
            } else {
                saw("frame behind " + (16 - x));
            }
        } else if (type == 0) {
            saw("frame while locked");
        } else if (type == 1) {
            saw("frame past" + (locked ? " while locked" : ""));
            craftHearsPdu(info);
        } else if (type == 2) {
            saw("unlock" + (locked ? " while locked" : "") + (again ? " with again" : ""));
            locked = false;
            again = false;
        } else if (type == 3) {
            saw("set" + (locked ? " while locked" : "") + (again ? " with again" : ""));
            if (!locked) {
                expected = number;
                again = false;
            }
        } else {
            saw("other type");
        }
    }

    private void craftHearsPdu(long info) {
        int kind = bits(info, 44, 47);
        int t = bits(info, 40, 43);
        int position = bits(info, 32, 39);
        int word = (int) info;
        if (kind < 1 || kind > 5) {
            saw("other kind up");
            return;
        }
        Entry e = entries.get(t);
        if (e == null && kind == 5) {
            saw("done without a record");
            return;
        }
        if (e == null) {
            e = new Entry();
            entries.put(t, e);
            saw("record made by kind " + kind);
        } else {
            saw("kind " + kind + " while " + e.state);
        }
        if (kind == 3 || kind == 4) {
            e.owes.add("1GOT");
        }
        if (e.state.equals("OPEN")) {
            e.idle = t12;
            boolean took = false;
            if (kind == 1 && e.metadata == null && position <= 16 && word >= 0 && word <= 3) {
                e.metadata = new int[] {position, word};
                e.tries = 1;
                took = true;
            } else if (kind == 2 && position <= 15 && !e.data.containsKey(position)) {
                e.data.put(position, word);
                e.tries = 1;
                took = true;
            } else if (kind == 3 && e.eof == null && position <= 16) {
                e.eof = new int[] {position, word};
                took = true;
            } else if (kind == 4) {
                endEntry(e, 5);
            } else {
                saw("kind " + kind + " not taken");
            }
            if (took) {
                afterTaking(e, kind);
            }
        } else if (kind == 5 && e.state.equals("ENDING")) {
            closeEntry(e);
        }
    }

    private void afterTaking(Entry e, int kind) {
        boolean whole = e.metadata != null && e.eof != null;
        int sum = 0;
        for (int k = 0; whole && k < e.eof[0]; k++) {
            whole = e.data.containsKey(k);
            sum += whole ? e.data.get(k) : 0;
        }
        if (!whole) {
            if (kind == 3) {
                e.owes.add("2LACK");
                e.clock = t3;
                e.tries = 1;
            }
            return;
        }
        saw("whole by kind " + kind);
        if (e.metadata[0] != e.eof[0]) {
            saw("lengths differ");
            endEntry(e, 2);
        } else if (sum != e.eof[1]) {
            saw("sums differ");
            endEntry(e, 2);
        } else {
            List<Integer> file = new ArrayList<>();
            for (int k = 0; k < e.eof[0]; k++) {
                file.add(e.data.get(k));
            }
            store.put(e.metadata[1], file);
            endEntry(e, 1);
        }
    }

    private void endEntry(Entry e, int condition) {
        saw("record ends with " + condition + (e.owes.contains("2LACK") ? " owing a lack" : ""));
        e.state = "ENDING";
        e.condition = condition;
        e.owes.add("3FINISHED");
        e.owes.remove("2LACK");
        e.clock = t3;
        e.tries = 1;
    }

    private void closeEntry(Entry e) {
        saw("record closed with " + e.condition + " owing " + e.owes);
        e.state = "CLOSED";
        e.owes.remove("2LACK");
        e.owes.remove("3FINISHED");
        ends++;
    }

    private void craftClocks() {
        for (Entry e : entries.values()) {
            if (e.state.equals("OPEN")) {
                e.idle--;
                if (e.idle == 0) {
                    e.condition = 4;
                    closeEntry(e);
                } else if (e.eof != null) {
                    e.clock--;
                    if (e.clock == 0 && e.tries == 4) {
                        endEntry(e, 3);
                    } else if (e.clock == 0) {
                        e.tries++;
                        e.owes.add("2LACK");
                        e.clock = t3;
                        saw("lack again " + e.tries);
                    }
                }
            } else if (e.state.equals("ENDING")) {
                e.clock--;
                if (e.clock == 0 && e.tries == 4) {
                    saw("finished not answered");
                    closeEntry(e);
                } else if (e.clock == 0) {
                    e.tries++;
                    e.owes.add("3FINISHED");
                    e.clock = t3;
                    saw("finished again " + e.tries);
                }
            }
        }
    }

    private void craftSends() {
        long pdu = 0;
        for (Map.Entry<Integer, Entry> one : entries.entrySet()) {
            Entry e = one.getValue();
            if (!e.owes.isEmpty()) {
                String first = e.owes.iterator().next();
                saw("sends of " + e.owes + " while " + e.state);
                e.owes.remove(first);
                long mask = 0;
                if (first.equals("2LACK")) {
                    mask = e.metadata == null ? 1 << 16 : 0;
                    for (int k = 0; k < e.eof[0]; k++) {
                        mask += e.data.containsKey(k) ? 0 : 1 << k;
                    }
                } else if (first.equals("3FINISHED")) {
                    mask = e.condition;
                }
                pdu = (first.charAt(0) - '0') * 256L + one.getKey() * 4096L + mask * 65536L;
                break;
            }
        }
        send(false, report() + pdu);
    }

    // The ground.

    private void groundHearsReport(long info) {
        int theirs = bits(info, 0, 3);
        boolean isLocked = bits(info, 4, 4) == 1;
        boolean wantsAgain = bits(info, 5, 5) == 1;
        int n = unconfirmed.size();
        if (state.equals("ACTIVE") && isLocked) {
            alert("UNLOCKING", "report locked");
        } else if (state.equals("ACTIVE")) {
            int x = Math.floorMod(theirs - (n == 0 ? next : unconfirmed.get(0).number), 16);
            if (x > n) {
                alert("SETTING", "report out of the window");
                return;
            }
            for (int i = 0; i < x; i++) {
                unconfirmed.remove(0);
            }
            if (x > 0) {
                count = 1;
                clock = span;
                saw("confirmed " + x);
            }
            if (!wantsAgain) {
                recovering = false;
            } else if (n > x && (x > 0 || !recovering)) {
                if (x == 0 && count == 4) {
                    alert("SETTING", "again too often");
                } else {
                    count += x == 0 ? 1 : 0;
                    markAll();
                    recovering = true;
                    clock = span;
                    saw("again, confirmed " + (x > 0));
                }
            } else {
                saw("again without effect, recovering " + recovering + ", rest " + (n > x));
            }
        } else if (state.equals("UNLOCKING")) {
            if (!isLocked) {
                state = "SETTING";
                directive = true;
                saw("unlocked");
            } else {
                saw("still locked");
            }
        } else if (isLocked) {
            state = "UNLOCKING";
            directive = true;
            saw("locked while setting");
        } else if (theirs == next && !wantsAgain) {
            saw("set done, directive " + directive);
            state = "ACTIVE";
            directive = false;
        } else {
            saw("not set yet, again " + wantsAgain + ", number " + (theirs == next));
        }
    }

    private void markAll() {
        for (Frame frame : unconfirmed) {
            frame.marked = true;
        }
    }

    private void alert(String newState, String why) {
        saw("alert: " + why);
        alerts++;
        unconfirmed.clear();
        state = newState;
        directive = true;
        count = 1;
        recovering = false;
        clock = span;
    }

    private void groundHearsPdu(long info) {
        int kind = bits(info, 8, 11);
        int t = bits(info, 12, 15);
        int mask = bits(info, 16, 39);
        if (t >= sendings.size()) {
            saw("kind " + kind + " down for no transaction");
            return;
        }
        Sending s = sendings.get(t);
        String how = s.ended ? "ended" : s.cancelled ? "cancelled" : "under way";
        saw("kind " + (kind > 3 ? "other" : "" + kind) + " down while " + how + (s.suspended ? ", suspended" : ""));
        if (kind == 1 && !s.ended) {
            s.answered = true;
        } else if (kind == 2 && !s.ended && !s.cancelled) {
            for (int k = 0; k < s.length; k++) {
                if ((mask >>> k & 1) == 1) {
                    s.due.add("DATA" + k);
                }
            }
            if ((mask >>> 16 & 1) == 1) {
                s.due.add("METADATA");
            }
        } else if (kind == 3) {
            if (!s.ended) {
                endSending(s, mask);
            }
            s.due.add("DONE");
        }
        if (kind >= 1 && kind <= 3) {
            s.idle = t12;
        }
    }

    private void endSending(Sending s, int outcome) {
        saw("ended with " + (outcome < 6 ? outcome : "more"));
        s.ended = true;
        s.outcome = outcome;
        s.due.clear();
        s.suspended = false;
        ends++;
    }

    private void groundFramesClock() {
        if (state.equals("ACTIVE") && unconfirmed.isEmpty()) {
            return;
        }
        clock--;
        if (clock != 0) {
            return;
        }
        if (!state.equals("ACTIVE")) {
            saw("directive again while " + state);
            directive = true;
            clock = span;
        } else if (count == 4) {
            alert("SETTING", "clock ran out too often");
        } else {
            count++;
            markAll();
            clock = span;
            saw("clock marks " + count);
        }
    }

    private void groundFilesClocks() {
        for (Sending s : sendings) {
            if (s.ended || s.suspended) {
                continue;
            }
            if (s.answered) {
                s.idle--;
                if (s.idle == 0) {
                    endSending(s, 4);
                }
            } else if (s.lastSent) {
                s.clock--;
                if (s.clock == 0 && s.tries == 4) {
                    endSending(s, 3);
                } else if (s.clock == 0) {
                    s.tries++;
                    s.due.add("LAST");
                    s.lastSent = false;
                    saw((s.cancelled ? "cancel" : "eof") + " again " + s.tries);
                }
            }
        }
    }

    private void groundSends() {
        if (directive) {
            directive = false;
            clock = span;
            send(true, state.equals("UNLOCKING") ? 2L << 52 : 3L << 52 | (long) next << 48);
            return;
        }
        for (Frame frame : unconfirmed) {
            if (frame.marked) {
                frame.marked = false;
                clock = span;
                send(true, (long) frame.number << 48 | frame.pdu);
                return;
            }
        }
        for (int t = 0; t < sendings.size(); t++) {
            Sending s = sendings.get(t);
            boolean room = state.equals("ACTIVE") && unconfirmed.size() < 7;
            if (!s.suspended && !s.due.isEmpty() && (s.past || room)) {
                sendOf(t, s);
                return;
            }
        }
        saw("nothing sent");
    }

    private void sendOf(int t, Sending s) {
        long pdu = takeDue(t, s);
        if (s.past) {
            send(true, 1L << 52 | pdu);
            return;
        }
        Frame frame = new Frame();
        frame.number = next;
        frame.pdu = pdu;
        next = (next + 1) % 16;
        unconfirmed.add(frame);
        clock = span;
        if (unconfirmed.size() == 1) {
            count = 1;
        }
        send(true, (long) frame.number << 48 | pdu);
    }

    private long takeDue(int t, Sending s) {
        if (s.due.remove("DONE")) {
            return pdu(5, t, 0, 0);
        }
        if (s.due.remove("METADATA")) {
            return pdu(1, t, s.length, s.name);
        }
        for (int k = 0; k < 16; k++) {
            if (s.due.remove("DATA" + k)) {
                return pdu(2, t, k, s.words[k]);
            }
        }
        s.due.remove("LAST");
        s.lastSent = true;
        s.clock = t3;
        int sum = 0;
        for (int k = 0; k < s.length; k++) {
            sum += s.words[k];
        }
        return s.cancelled ? pdu(4, t, 0, 0) : pdu(3, t, s.length, sum);
    }

    private static long pdu(int kind, int t, int position, int word) {
        return (long) kind << 44 | (long) t << 40 | (long) position << 32 | word & 0xFFFFFFFFL;
    }
}
