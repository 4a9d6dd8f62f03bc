import java.util.function.Supplier;

/**
 * A ground that hears what a test makes up, and nothing else; the craft hears nothing of it, and so
 * sends blocks with the info 0, each of which may be turned into another on its way.
 */
final class LoneGround {
    private static final int PROBE = 0x5A5A5A5A;
    private static final int PROBE_POSITION = 7;
    private static final int PROBE_RECORD = 15;
    private static final int PROBE_NUMBER = 11;

    final FarLink link;
    private final int delay;

    LoneGround(int delay) {
        this.delay = delay;
        link = new FarLink(delay);
    }

    /** Lets ticks go by; answers what run answers. */
    int pass(int ticks) {
        int answer = 0;
        for (int left = ticks; left > 0; left -= 100) {
            link.outage(true, 200);
            link.outage(false, 200);
            answer += link.run(Math.min(left, 100));
        }
        return answer;
    }

    /** Takes one tick, in which the info goes down; it is heard as many ticks later as the delay says. */
    LoneGround comes(long info) {
        link.outage(true, 200);
        link.outage(false, 0);
        Infos.turn(link, false, 0, info);
        link.run(1);
        return this;
    }

    /** The infos go down, one a tick; the first tick that is still to come is that in which the last is heard. */
    LoneGround isToHear(long... infos) {
        for (long info : infos) {
            comes(info);
        }
        pass(delay - 1);
        return this;
    }

    /** The infos go down, one a tick; the last is heard in the last tick of this. */
    LoneGround hears(long... infos) {
        isToHear(infos);
        pass(1);
        return this;
    }

    /** The info is heard in the last of so many ticks. */
    LoneGround hearsIn(int ticks, long info) {
        pass(ticks - delay - 1);
        return hears(info);
    }

    /** The infos of the blocks that the ground sends in the ticks after a story; NONE where it sends none. */
    static void sends(String what, Supplier<LoneGround> story, long... infos) {
        for (int i = 0; i < infos.length; i++) {
            sendsAfter(what + ", tick " + i, story, i, infos[i]);
        }
    }

    /** The info of the block that the ground sends in the tick after a story and some ticks more. */
    static void sendsAfter(String what, Supplier<LoneGround> story, int ticks, long info) {
        LoneGround ground = story.get();
        ground.pass(ticks);
        if (info == Infos.NONE) {
            int before = ground.link.sent(true);
            ground.pass(1);
            Check.due(what + ": none is sent, sent(true)", ground.link.sent(true), before);
            return;
        }
        ground.probePdu(what, info);
        LoneGround other = story.get();
        other.pass(ticks);
        other.probeNumber(what, info);
    }

    private void turnNext(String what, long from, long to) {
        int before = link.sent(true);
        link.outage(true, 0);
        link.outage(false, 200);
        Infos.turn(link, true, from, to);
        link.run(1);
        Check.due(what + ": one is sent, sent(true)", link.sent(true), before + 1);
        pass(delay);
    }

    /** Only the type and the PDU that are due become this DATA, past the order. */
    private void probePdu(String what, long info) {
        long data = Infos.pdu(Infos.DATA, PROBE_RECORD, PROBE_POSITION, PROBE);
        turnNext(what, info, Infos.frame(1, 5, data));
        Check.due(what + ": PDU as due, missing", link.missing(PROBE_RECORD), 0x3FFFF ^ 1 << PROBE_POSITION);
        Check.due(what + ": PDU as due, taken", link.taken(PROBE_RECORD, PROBE_POSITION), PROBE);
        Check.due(what + ": type as due, report()", link.report(), 0);
    }

    /** Only the type and the number that are due become this SET. */
    private void probeNumber(String what, long info) {
        turnNext(what, info, Infos.set(PROBE_NUMBER));
        Check.due(what + ": number as due, report()", link.report(), PROBE_NUMBER);
    }
}
