/**
 * Promise 19: sample, and what Terms say of the SAMPLE itself. The other tests of the promise 19 are of the parts that
 * a sample goes through: Tracks, Gates, Level, Phase, Filter, Delay.
 */
public final class Promise19Test {
    public static void main(String[] args) {
        Tests.of(Promise19Test.class);
    }

    /** So many notes at once, as loud as can be: they give 0, then 250 * 16 each, then 562 * 16 each. */
    private static Melodeon loud(int sign, int notes) {
        Melodeon m = Sounds.flat(1000 * sign);
        m.setGain(256);
        for (int i = 0; i < notes; i++) {
            m.begin(0, 0, 127);
        }
        return m;
    }

    /** Without a VOICE that sounds, and without a DELAY, the sum is of nothing. */
    static void aSampleOfNothing(Due due) {
        Melodeon m = new Melodeon();
        due.same("sample()", m.sample(), 0);
        due.same("clock()", m.clock(), 1);
    }

    /** "If it is above 32767 ..., it is that": far above, and as it is heard too */
    static void aboveItIsClipped(Due due) {
        Melodeon m = loud(1, 4);
        m.run(2);
        due.same("562 * 16 * 4 = 35968", m.sample(), 32767);
        due.same("heard(0)", m.heard(0), 32767);
        due.same("clipped()", m.clipped(), 1);
        Melodeon three = loud(1, 3);
        due.same("562 * 16 * 3", three.run(3), 26976);
        due.same("clipped()", three.clipped(), 0);
    }

    /** "If it is ... below -32767, it is that" */
    static void belowItIsClipped(Due due) {
        Melodeon m = loud(-1, 4);
        m.run(2);
        due.same("-562 * 16 * 4 = -35968", m.sample(), -32767);
        due.same("heard(0)", m.heard(0), -32767);
        due.same("clipped()", m.clipped(), 1);
        Melodeon three = loud(-1, 3);
        due.same("-562 * 16 * 3", three.run(3), -26976);
        due.same("clipped()", three.clipped(), 0);
    }

    /**
     * The row holds 100000, of which 84 / 256 are 32812. The second sample of a note against it takes off
     * 250 * force / 127 * gain / 16.
     */
    private static Melodeon atTheEdge(int sign, int force, int gain) {
        Melodeon m = Sounds.flat(1000 * sign);
        m.setGain(256);
        m.setDelay(1, 84, 256);
        m.begin(0, 0, 127);
        m.run(60);
        m.hush();
        Sounds.drawFlat(m, -1000 * sign);
        m.setGain(gain);
        m.begin(0, 0, force);
        m.sample();
        m.reset();
        return m;
    }

    /** 32812 - 45: 32767 itself is not above it */
    static void theGreatestThatIsNotClipped(Due due) {
        Melodeon m = atTheEdge(1, 23, 16);
        due.same("sample()", m.sample(), 32767);
        due.same("clipped()", m.clipped(), 0);
    }

    /** 32812 - 44: 32768 is */
    static void theLeastAboveThatIsClipped(Due due) {
        Melodeon m = atTheEdge(1, 24, 15);
        due.same("sample()", m.sample(), 32767);
        due.same("clipped()", m.clipped(), 1);
    }

    /** -32812 + 45: -32767 itself is not below it */
    static void theLeastThatIsNotClipped(Due due) {
        Melodeon m = atTheEdge(-1, 23, 16);
        due.same("sample()", m.sample(), -32767);
        due.same("clipped()", m.clipped(), 0);
    }

    /** -32812 + 44: -32768 is */
    static void theGreatestBelowThatIsClipped(Due due) {
        Melodeon m = atTheEdge(-1, 24, 15);
        due.same("sample()", m.sample(), -32767);
        due.same("clipped()", m.clipped(), 1);
    }

    /** "m is the sum of what they give, times GAIN ..., / 16": the sum is cut, not what each gives */
    static void theSumIsCut(Due due) {
        for (int sign = -1; sign <= 1; sign += 2) {
            Melodeon m = loud(sign, 3);
            m.setGain(1);
            due.same("1686 / 16 = 105.4, and not 3 * 35", m.run(3), 105 * sign);
        }
    }

    /** "m is the sum of what they give": it is the sum that is CLIPPED, and not two of them on the way there */
    static void theSumMayComeToNothing(Due due) {
        Melodeon m = Sounds.flat(-1000);
        m.setWaves(1, 1, 1, 0, 0);
        m.setEnvelope(1, 1, 1, 1000, 1);
        m.setGain(256);
        for (int i = 0; i < 4; i++) {
            // the square is 1000 for as long as this takes
            m.begin(i / 2, 0, 127);
        }
        int loudest = 0;
        for (int i = 0; i < 40; i++) {
            due.same("sample " + i, m.sample(), 0);
            loudest = Math.max(loudest, m.ofVoice(3, 7));
        }
        due.same("LOW of 0 and of 3", m.ofVoice(0, 7), -m.ofVoice(3, 7));
        due.yes("two alone would be CLIPPED", loudest * 2 * 16 > 32767);
        due.same("clipped()", m.clipped(), 0);
    }

    /** "Then the CLOCK becomes 1 more": the first sample has the VIBRATO of the CLOCK 0, the next that of 1 */
    static void theClockIsOneMoreBehindIt(Due due) {
        Melodeon m = new Melodeon();
        m.setVibrato(0, 64, 8);
        m.begin(0, 0, 127);
        m.sample();
        due.same("PHASE", m.ofVoice(0, 5), 256 - 64);
        due.same("clock()", m.clock(), 1);
        m.sample();
        due.same("PHASE", m.ofVoice(0, 5), 512 - 64 - 32);
        due.same("clock()", m.clock(), 2);
    }

    /** "Returns the SAMPLE", which is the latest one then */
    static void itIsTheLatestOne(Due due) {
        Melodeon m = loud(1, 1);
        int[] samples = {0, 4000, 562 * 16, 828 * 16};
        for (int sample : samples) {
            due.same("sample()", m.sample(), sample);
            due.same("heard(0)", m.heard(0), sample);
        }
    }
}
