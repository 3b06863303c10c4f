/** Promise 32: step. */
public final class Promise32Test {
    public static void main(String[] args) {
        Tests.of(Promise32Test.class);
    }

    /** "-1 if it does not PLAY": at first, and behind stop() */
    static void withoutPlaying(Due due) {
        Melodeon m = new Melodeon();
        due.same("step() at first", m.step(), -1);
        m.run(50);
        due.same("step() behind samples", m.step(), -1);
        m.play(3);
        m.run(5);
        m.stop();
        due.same("step() behind stop()", m.step(), -1);
    }

    /** "or would begin with the next sample": behind play(), 0 to 7 */
    static void theOneThatWouldBegin(Due due) {
        Melodeon m = new Melodeon();
        for (int step = 0; step < 8; step++) {
            m.play(step);
            due.same("step()", m.step(), step);
        }
    }

    /** "the STEP that is on": from behind its first sample to ahead of its last */
    static void theOneThatIsOn(Due due) {
        Melodeon m = new Melodeon();
        m.setTempo(3, 1);
        m.play(0);
        int[] steps = {0, 0, 0, 1, 1, 2, 2, 2, 2, 3, 3};
        for (int step : steps) {
            m.sample();
            due.same("step() at the clock " + m.clock(), m.step(), step);
        }
    }

    /** "behind 7 the STEP 0": behind the last sample of it, not ahead of that */
    static void behindSevenComesZero(Due due) {
        Melodeon m = new Melodeon();
        m.setTempo(3, 0);
        m.play(7);
        m.run(2);
        due.same("step() ahead of the last sample", m.step(), 7);
        m.sample();
        due.same("step() behind it", m.step(), 0);
        m.sample();
        due.same("step() behind the first of the next", m.step(), 0);
    }
}
