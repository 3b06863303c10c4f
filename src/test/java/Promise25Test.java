/** Promise 25: clipped. Where it begins to be, 32767 and 32768, is in Promise19Test too. */
public final class Promise25Test {
    public static void main(String[] args) {
        Tests.of(Promise25Test.class);
    }

    private static Melodeon loud(int sign, int notes) {
        Melodeon m = Sounds.flat(1000 * sign);
        m.setGain(256);
        for (int i = 0; i < notes; i++) {
            m.begin(0, 0, 127);
        }
        return m;
    }

    /** None at first, and none of SAMPLES that are not */
    static void noneAtFirst(Due due) {
        due.same("clipped()", new Melodeon().clipped(), 0);
        Melodeon m = loud(1, 1);
        m.run(200);
        due.same("clipped() of one note", m.clipped(), 0);
    }

    /** The row holds 100000, of which 84 / 256 are 32812; a note against it takes off the rest, or 1 less. */
    private static int clippedNextTo(int sign, int force, int gain) {
        Melodeon m = loud(sign, 1);
        m.setDelay(1, 84, 256);
        m.run(60);
        m.hush();
        Sounds.drawFlat(m, -1000 * sign);
        m.setGain(gain);
        m.begin(0, 0, force);
        m.sample();
        m.reset();
        due32767(m.sample(), sign);
        return m.clipped();
    }

    private static void due32767(int sample, int sign) {
        if (sample != 32767 * sign) {
            throw new IllegalStateException("the sample is " + sample);
        }
    }

    /** "If it is above 32767 ...": 32767 is not, 32768 is */
    static void theEdgeAbove(Due due) {
        due.same("clipped() of 32767", clippedNextTo(1, 23, 16), 0);
        due.same("clipped() of 32768", clippedNextTo(1, 24, 15), 1);
    }

    /** "or below -32767": -32767 is not, -32768 is */
    static void theEdgeBelow(Due due) {
        due.same("clipped() of -32767", clippedNextTo(-1, 23, 16), 0);
        due.same("clipped() of -32768", clippedNextTo(-1, 24, 15), 1);
    }

    /** "how many SAMPLES were": each one, above 0 and below it, also if the one before was too */
    static void eachOneCounts(Due due) {
        for (int sign = -1; sign <= 1; sign += 2) {
            Melodeon m = loud(sign, 4);
            m.run(2);
            due.same("clipped() of 0 and 16000", m.clipped(), 0);
            for (int i = 1; i <= 5; i++) {
                m.sample();
                due.same("clipped() of " + i + " more", m.clipped(), i);
            }
            m.hush();
            m.run(9);
            due.same("clipped() behind that", m.clipped(), 5);
        }
    }

    /** "since then": behind reset() it counts from 0 again, though they go on */
    static void sinceTheLastReset(Due due) {
        Melodeon m = loud(1, 4);
        m.run(5);
        due.same("clipped()", m.clipped(), 3);
        m.reset();
        due.same("clipped() behind reset()", m.clipped(), 0);
        m.sample();
        due.same("clipped() of one more", m.clipped(), 1);
    }

    /** What would be CLIPPED is not. */
    static void notWhatWouldCome(Due due) {
        Melodeon m = loud(1, 4);
        due.same("wouldPeak(9)", m.wouldPeak(9), 32767);
        m.silentIn(9);
        due.same("clipped()", m.clipped(), 0);
    }
}
