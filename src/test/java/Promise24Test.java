/** Promise 24: loudness. */
public final class Promise24Test {
    public static void main(String[] args) {
        Tests.of(Promise24Test.class);
    }

    /** "0 without any": at the beginning, and behind reset() */
    static void withoutAny(Due due) {
        due.same("loudness()", new Melodeon().loudness(), 0.0);
        Melodeon m = Sounds.flat(1000);
        m.begin(0, 0, 127);
        m.run(9);
        m.reset();
        due.same("loudness() behind reset()", m.loudness(), 0.0);
    }

    /** Of SAMPLES that are all 0 it is 0 too. */
    static void ofNothing(Due due) {
        Melodeon m = new Melodeon();
        m.sample();
        due.same("loudness() of one", m.loudness(), 0.0);
        m.run(200);
        due.same("loudness() of many", m.loudness(), 0.0);
    }

    /** Of one SAMPLE alone it is that one. */
    static void ofOne(Due due) {
        for (int sign = -1; sign <= 1; sign += 2) {
            Melodeon m = Sounds.flat(1000 * sign);
            m.begin(0, 0, 127);
            m.run(3);
            m.reset();
            m.sample();
            due.same("loudness()", m.loudness(), 3312.0);
        }
    }

    /** "not cut": 0 and 1 are 0.5, and of three the third part of 1 */
    static void itIsNotCut(Due due) {
        Melodeon m = Sounds.flat(1000);
        m.setGain(1);
        m.begin(0, 0, 9);
        m.run(2);
        due.same("loudness() of 0 and 1", m.loudness(), 0.5);
        m.hush();
        m.sample();
        due.same("loudness() of 0, 1 and 0", m.loudness(), 1.0 / 3);
    }

    /** "without their signs": what is below 0 does not take off what is above */
    static void withoutTheirSigns(Due due) {
        Melodeon m = Sounds.flat(-1000);
        m.begin(0, 0, 127);
        m.run(3);
        due.same("loudness() of 0, -1000 and -2248", m.loudness(), 3248.0 / 3);
        m.hush();
        Sounds.drawFlat(m, 1000);
        m.begin(0, 0, 127);
        m.run(3);
        due.same("loudness(), 0, 1000 and 2248 behind that", m.loudness(), 6496.0 / 6);
    }

    /** The SAMPLES are what they are as they are CLIPPED. */
    static void asTheyAreClipped(Due due) {
        for (int sign = -1; sign <= 1; sign += 2) {
            Melodeon m = Sounds.flat(1000 * sign);
            m.setGain(256);
            for (int i = 0; i < 4; i++) {
                m.begin(0, 0, 127);
            }
            m.run(3);
            due.same("loudness() of 0, 16000 and 32767", m.loudness(), 48767.0 / 3);
        }
    }

    /** As many of the greatest as an object may make: their sum is beyond an int, 65538 of them already */
    static void ofAsManyAsThereMayBe(Due due) {
        Melodeon m = Sounds.flat(1000);
        m.setGain(256);
        m.setDelay(1, 256, 256);
        m.begin(0, 0, 127);
        m.run(200);
        m.reset();
        for (int i = 0; i < 460; i++) {
            m.run(200);
        }
        due.same("loudness()", m.loudness(), 32767.0);
        due.same("reset()", m.reset(), 92000);
    }
}
