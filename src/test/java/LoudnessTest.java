/** Promises 23 to 27: peak, loudness, clipped, crossings, reset. */
public final class LoudnessTest {
    private static final Due due = new Due("LoudnessTest");

    public static void main(String[] args) {
        peaks();
        means();
        clips();
        edgesOfClipping();
        crosses();
        smallCrosses();
        crossesOverReset();
        resets();
        due.end();
    }

    private static void peaks() {
        Melodeon m = Sounds.flat(-1000);
        m.begin(0, 0, 127);
        m.run(4);
        due.same("peak below 0", m.peak(), 3312);
        m.hush();
        m.run(5);
        due.same("peak stays", m.peak(), 3312);
        m.reset();
        due.same("peak behind reset", m.peak(), 0);
        m.sample();
        due.same("peak of silence", m.peak(), 0);
    }

    private static void means() {
        Melodeon m = Sounds.flat(-1000);
        due.same("without any", m.loudness(), 0.0);
        m.begin(0, 0, 127);
        m.sample();
        due.same("of 0", m.loudness(), 0.0);
        m.run(2);
        due.same("of 0, -1000, -2248", m.loudness(), 3248.0 / 3);
        m.reset();
        due.same("behind reset", m.loudness(), 0.0);
        m.sample();
        due.same("of -3312", m.loudness(), 3312.0);
        Melodeon loud = Sounds.flat(1000);
        loud.setGain(256);
        loud.setDelay(1, 256, 256);
        loud.begin(0, 0, 127);
        loud.run(200);
        loud.reset();
        for (int i = 0; i < 400; i++) {
            loud.run(200);
        }
        due.same("of many, beyond an int", loud.loudness(), 32767.0);
    }

    private static void clips() {
        Melodeon m = Sounds.flat(1000);
        m.setGain(256);
        for (int voice = 0; voice < 4; voice++) {
            m.begin(0, 0, 127);
        }
        m.run(2);
        due.same("none yet", m.clipped(), 0);
        m.run(3);
        due.same("three", m.clipped(), 3);
        due.same("peak as it is clipped", m.peak(), 32767);
        due.same("loudness as it is clipped", m.loudness(), (16000 + 3 * 32767) / 5.0);
        m.reset();
        due.same("behind reset", m.clipped(), 0);
        m.sample();
        due.same("one", m.clipped(), 1);
        m.hush();
        m.run(9);
        due.same("one", m.clipped(), 1);
    }

    private static void edgesOfClipping() {
        for (int sign = -1; sign <= 1; sign += 2) {
            due.same("32767 is not clipped", clippedAtEdge(sign, 23, 16), 0);
            due.same("32768 is clipped", clippedAtEdge(sign, 24, 15), 1);
        }
    }

    /**
     * The delay has 100000 and gives 100000 * 84 / 256 = 32812; the second sample of a note against it takes off
     * 250 * force / 127 * gain / 16, which is 45 for 23 and 16, 44 for 24 and 15.
     */
    private static int clippedAtEdge(int sign, int force, int gain) {
        Melodeon m = Sounds.flat(1000 * sign);
        m.setGain(256);
        m.setDelay(1, 84, 256);
        m.begin(0, 0, 127);
        m.run(60);
        m.hush();
        Sounds.drawFlat(m, -1000 * sign);
        m.setGain(gain);
        m.begin(0, 0, force);
        m.sample();
        due.same("the delay is full", m.inDelay(0), 100000 * sign);
        m.reset();
        due.same("sample at the edge", m.sample(), 32767 * sign);
        return m.clipped();
    }

    private static void crosses() {
        Melodeon m = Sounds.busy();
        int ahead = m.heard(0);
        m.reset();
        int due0 = 0;
        for (int i = 0; i < 200; i++) {
            int now = m.sample();
            due0 += now > 0 && ahead <= 0 ? 1 : 0;
            ahead = now;
        }
        due.yes("there are some", due0 > 3);
        due.same("crossings", m.crossings(), due0);
        Melodeon first = Sounds.flat(1000);
        first.begin(0, 0, 127);
        first.sample();
        due.same("0 behind 0", first.crossings(), 0);
        first.sample();
        due.same("above 0 behind 0", first.crossings(), 1);
        first.run(9);
        due.same("above 0 behind above 0", first.crossings(), 1);
        first.hush();
        first.run(2);
        due.same("0 behind above 0", first.crossings(), 1);
        Melodeon down = Sounds.flat(-1000);
        down.begin(0, 0, 127);
        down.run(9);
        due.same("below 0", down.crossings(), 0);
        down.hush();
        down.sample();
        due.same("0 behind below 0", down.crossings(), 0);
    }

    private static void smallCrosses() {
        Melodeon m = Sounds.flat(1000);
        m.setGain(1);
        m.begin(0, 0, 9);
        m.sample();
        due.same("250 * 9 / 127 / 16", m.sample(), 1);
        due.same("1 behind 0", m.crossings(), 1);
        due.same("562 * 9 / 127 / 16", m.sample(), 2);
        due.same("2 behind 1", m.crossings(), 1);
    }

    private static void crossesOverReset() {
        Melodeon m = Sounds.flat(1000);
        m.begin(0, 0, 127);
        m.run(3);
        m.reset();
        due.same("behind reset", m.crossings(), 0);
        m.sample();
        due.same("above 0, behind one above 0 ahead of reset", m.crossings(), 0);
        m.hush();
        m.sample();
        m.begin(0, 0, 127);
        m.sample();
        m.reset();
        m.sample();
        due.same("above 0, behind a 0 ahead of reset", m.crossings(), 1);
    }

    private static void resets() {
        Melodeon m = new Melodeon();
        due.same("reset at first", m.reset(), 0);
        m.run(200);
        m.sample();
        due.same("reset", m.reset(), 201);
        due.same("reset again", m.reset(), 0);
        m.run(3);
        due.same("reset", m.reset(), 3);
        due.same("the clock stays", m.clock(), 204);
        Melodeon one = Sounds.busy();
        Melodeon other = Sounds.busy();
        one.reset();
        due.same("the samples are the same", one.run(50), other.run(50));
        due.same("heard stays", one.heard(60), other.heard(60));
    }
}
