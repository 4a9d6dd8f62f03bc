import java.util.function.Supplier;

/**
 * A craft that hears what a test makes up, and nothing else; the ground hears nothing of it. What
 * goes up are the blocks of a file that the ground holds back, each turned into another on its way.
 */
final class LoneCraft {
    private static final int BLOCKS_OF_A_FILE = 18;
    private static final int PROBE = 0x25A5A5;

    final FarLink link;
    private final int delay;
    private int carrier;
    private int carried;

    LoneCraft(int delay) {
        this.delay = delay;
        link = new FarLink(delay);
        nextCarrier();
    }

    private void nextCarrier() {
        carrier = link.put(0, 16, 0, true);
        carried = 0;
        link.suspend(carrier, true);
    }

    private long carriedInfo() {
        if (carried == 0) {
            return Infos.past(Infos.METADATA, carrier, 16, 0);
        }
        boolean isWord = carried < BLOCKS_OF_A_FILE - 1;
        return isWord ? Infos.past(Infos.DATA, carrier, carried - 1, 0) : Infos.past(Infos.EOF, carrier, 16, 0);
    }

    /** Lets ticks go by; answers what run answers. */
    int pass(int ticks) {
        int answer = 0;
        for (int left = ticks; left > 0; left -= 100) {
            link.outage(false, 200);
            answer += link.run(Math.min(left, 100));
        }
        return answer;
    }

    /** Takes one tick, in which the info goes up; it is heard as many ticks later as the delay says. */
    LoneCraft send(long info) {
        if (carried == BLOCKS_OF_A_FILE) {
            nextCarrier();
        }
        link.suspend(carrier, false);
        Infos.turn(link, true, carriedInfo(), info);
        carried++;
        pass(1);
        link.suspend(carrier, true);
        return this;
    }

    /** The infos go up, one a tick; the first tick that is still to come is that in which the last is heard. */
    LoneCraft isToHear(long... infos) {
        for (long info : infos) {
            send(info);
        }
        pass(delay - 1);
        return this;
    }

    /** The infos go up, one a tick; the last is heard in the last tick of this. */
    LoneCraft hears(long... infos) {
        isToHear(infos);
        pass(1);
        return this;
    }

    /** The info is heard in the last of so many ticks. */
    LoneCraft hearsIn(int ticks, long info) {
        pass(ticks - delay - 1);
        return hears(info);
    }

    /** The infos of the blocks that the craft sends in the ticks after a story. */
    static void sends(String what, Supplier<LoneCraft> story, long... infos) {
        for (int i = 0; i < infos.length; i++) {
            sendsAfter(what + ", tick " + i, story, i, infos[i]);
        }
    }

    /** The info of the block that the craft sends in the tick after a story and some ticks more. */
    static void sendsAfter(String what, Supplier<LoneCraft> story, int ticks, long info) {
        LoneCraft craft = story.get();
        craft.pass(ticks);
        craft.probe(what, info);
    }

    /** Only the info that is due becomes this FINISHED and a report that the ground has no fault to find in. */
    private void probe(String what, long info) {
        link.outage(false, 0);
        Infos.turn(link, false, info, Infos.down(0, Infos.FINISHED, 0, PROBE));
        link.run(1);
        pass(delay);
        Check.due(what + ": PDU as due, outcome(false, 0)", link.outcome(false, 0), 8 + PROBE);
        Check.due(what + ": report as due, alerts()", link.alerts(), 0);
    }
}
