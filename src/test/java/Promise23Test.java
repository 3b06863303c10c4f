/** Promise 23: peak. */
public final class Promise23Test {
    public static void main(String[] args) {
        Tests.of(Promise23Test.class);
    }

    private static Melodeon note(int value, int gain, int notes) {
        Melodeon m = Sounds.flat(value);
        m.setGain(gain);
        for (int i = 0; i < notes; i++) {
            m.begin(0, 0, 127);
        }
        return m;
    }

    /** "0 without any": at the beginning */
    static void withoutAny(Due due) {
        due.same("peak()", new Melodeon().peak(), 0);
        Melodeon m = note(1000, 64, 1);
        due.same("peak(), a note begun", m.peak(), 0);
    }

    /** "0 without any": behind reset(), and of a SAMPLE that is 0 */
    static void withoutAnyBehindReset(Due due) {
        Melodeon m = note(1000, 64, 1);
        m.run(9);
        m.reset();
        due.same("peak()", m.peak(), 0);
        m.hush();
        m.sample();
        due.same("peak() of 0", m.peak(), 0);
    }

    /** "the greatest ... without their signs": the farthest from 0 is below it, then above it */
    static void withoutTheirSigns(Due due) {
        Melodeon m = note(-1000, 64, 1);
        m.run(4);
        due.same("peak() of 0, -1000, -2248, -3312", m.peak(), 3312);
        m.hush();
        Sounds.drawFlat(m, 1000);
        m.begin(0, 0, 127);
        m.run(3);
        due.same("peak() with 2248 behind that", m.peak(), 3312);
        m.setGain(80);
        due.same("sample()", m.sample(), 828 * 5);
        due.same("peak() with 4140 behind that", m.peak(), 4140);
    }

    /** It stays as the SAMPLES get less, and is 1 more as they get 1 more. */
    static void itNeverGetsLess(Due due) {
        Melodeon m = note(1000, 1, 1);
        m.run(2);
        due.same("250 / 16", m.peak(), 15);
        m.setGain(0);
        m.sample();
        due.same("peak() behind 0", m.peak(), 15);
        m.hush();
        Sounds.drawFlat(m, 1000);
        m.setGain(1);
        m.begin(0, 0, 127);
        m.run(2);
        due.same("15 again", m.peak(), 15);
        m.hush();
        m.setGain(16);
        m.begin(0, 0, 9);
        m.run(2);
        due.same("250 * 9 / 127 = 17", m.peak(), 17);
    }

    /** "(as they are CLIPPED)": 32767 is the greatest of all, above 0 and below it */
    static void asTheyAreClipped(Due due) {
        for (int sign = -1; sign <= 1; sign += 2) {
            Melodeon m = note(1000 * sign, 256, 4);
            m.run(2);
            due.same("peak() not clipped", m.peak(), 16000);
            m.sample();
            due.same("peak() clipped", m.peak(), 32767);
        }
    }

    /** It does not ask of SAMPLES ahead of reset(), though heard() does. */
    static void sinceTheLastReset(Due due) {
        Melodeon m = note(1000, 64, 1);
        m.run(4);
        m.reset();
        m.setGain(16);
        m.sample();
        due.same("peak() of the one behind", m.peak(), m.heard(0));
        due.yes("the one ahead was greater", m.heard(1) > m.heard(0));
    }

    /** Of more SAMPLES than heard() knows */
    static void ofMoreThanAreHeard(Due due) {
        Melodeon m = note(1000, 64, 1);
        m.run(4);
        m.hush();
        m.run(200);
        due.same("heard(63)", m.heard(63), 0);
        due.same("peak()", m.peak(), 3312);
    }
}
