/** Promise 29: sounding. */
public final class Promise29Test {
    public static void main(String[] args) {
        Tests.of(Promise29Test.class);
    }

    /** None at first, and not more than all four, of which one is taken then */
    static void fromNoneToAll(Due due) {
        Melodeon m = new Melodeon();
        for (int notes = 0; notes < 4; notes++) {
            due.same("sounding() of " + notes, m.sounding(), notes);
            m.begin(0, 1, 1);
        }
        due.same("sounding() of 4", m.sounding(), 4);
        m.begin(0, 1, 1);
        due.same("sounding() of 5", m.sounding(), 4);
        m.hush();
        due.same("sounding() behind hush()", m.sounding(), 0);
    }

    /** "how many VOICES are not FREE": one in RELEASE is not, till its LEVEL is 0 */
    static void untilItIsFree(Due due) {
        Melodeon m = new Melodeon();
        m.setEnvelope(0, 1, 1, 1000, 2);
        m.begin(0, 1, 1);
        m.begin(0, 1, 1);
        m.run(2);
        m.end(0);
        due.same("sounding(), one ended", m.sounding(), 2);
        m.sample();
        due.same("sounding(), at half its LEVEL", m.sounding(), 2);
        m.sample();
        due.same("sounding(), FREE", m.sounding(), 1);
    }

    /** At the LEVEL 0 it is not FREE: in ATTACK ahead of its first sample, in SUSTAIN at 0, in RELEASE from there */
    static void atTheLevelZero(Due due) {
        Melodeon m = new Melodeon();
        m.setEnvelope(0, 1, 1, 0, 2);
        m.begin(0, 1, 1);
        due.same("sounding(), in ATTACK", m.sounding(), 1);
        m.run(9);
        due.same("LEVEL", m.ofVoice(0, 1), 0);
        due.same("sounding(), in SUSTAIN", m.sounding(), 1);
        m.end(0);
        due.same("sounding(), in RELEASE", m.sounding(), 1);
        m.sample();
        due.same("sounding(), FREE", m.sounding(), 0);
    }

    /** What the row of the DELAY holds is no VOICE. */
    static void notTheDelay(Due due) {
        Melodeon m = Sounds.flat(1000);
        m.setDelay(1, 256, 256);
        m.begin(0, 0, 127);
        m.run(5);
        m.hush();
        due.yes("something is heard", m.sample() > 0);
        due.same("sounding()", m.sounding(), 0);
    }
}
