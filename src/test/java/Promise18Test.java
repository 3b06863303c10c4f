/** Promise 18: stop. */
public final class Promise18Test {
    public static void main(String[] args) {
        Tests.of(Promise18Test.class);
    }

    /** "-1 if it did not PLAY": at first, and behind another stop() */
    static void oneThatDoesNotPlay(Due due) {
        Melodeon m = new Melodeon();
        due.same("stop()", m.stop(), -1);
        m.play(0);
        due.same("stop()", m.stop(), 0);
        due.same("stop() again", m.stop(), -1);
        due.no("isPlaying()", m.isPlaying());
        m.play(5);
        m.run(3);
        due.same("stop() in the midst of a STEP", m.stop(), 5);
        due.same("stop() again", m.stop(), -1);
        m.run(3);
        due.same("stop() samples later", m.stop(), -1);
    }

    /** "Returns the STEP at which it was": 0 to 7, with no sample made */
    static void aStepThatWouldBegin(Due due) {
        Melodeon m = new Melodeon();
        for (int step = 0; step < 8; step++) {
            m.play(step);
            due.same("stop()", m.stop(), step);
            due.same("step()", m.step(), -1);
        }
    }

    /** "the one that is on": behind its first sample, and ahead of its last one */
    static void aStepThatIsOn(Due due) {
        for (int samples : new int[] {1, 4}) {
            Melodeon m = new Melodeon();
            m.setTempo(5, 0);
            m.play(7);
            m.run(samples);
            due.same("stop() behind " + samples, m.stop(), 7);
        }
    }

    /** "or would begin with the next sample": behind the last sample of the one before, and of 7 */
    static void theStepBehindTheLastSample(Due due) {
        for (int step = 0; step < 8; step++) {
            Melodeon m = new Melodeon();
            m.setTempo(5, 0);
            m.play(step);
            m.run(5);
            due.same("stop() behind the STEP " + step, m.stop(), (step + 1) % 8);
        }
    }

    /** "Lets it not PLAY any more": a STEP that would begin does not */
    static void noNoteBeginsAnyMore(Due due) {
        Melodeon m = new Melodeon();
        m.setTempo(5, 0);
        m.write(0, 1, 9, 10, 50);
        m.play(0);
        m.run(5);
        m.stop();
        m.run(200);
        due.same("taken() and sounding()", m.taken() + m.sounding(), 0);
        due.same("step()", m.step(), -1);
        due.same("clock()", m.clock(), 205);
    }

    /** "GATES go on, also if it does not PLAY" */
    static void gatesGoOn(Due due) {
        Melodeon m = new Melodeon();
        m.write(0, 0, 9, 10, 3);
        m.play(0);
        m.sample();
        due.same("stop()", m.stop(), 0);
        due.same("GATE", m.ofVoice(0, 9), 2);
        m.run(2);
        due.same("GATE", m.ofVoice(0, 9), 0);
        due.same("state", m.ofVoice(0, 0), 1);
        m.sample();
        due.same("GATE", m.ofVoice(0, 9), -1);
        due.same("state", m.ofVoice(0, 0), 4);
    }

    /** Behind stop() in the midst of a STEP, play() begins at the beginning of it. */
    static void itDoesNotGoOnInTheMidst(Due due) {
        Melodeon m = new Melodeon();
        m.setTempo(5, 0);
        m.play(0);
        m.run(4);
        m.stop();
        m.play(0);
        m.run(4);
        due.same("step() behind 4 samples", m.step(), 0);
        m.sample();
        due.same("step() behind 5 samples", m.step(), 1);
    }
}
