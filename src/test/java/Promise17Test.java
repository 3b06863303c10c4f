/** Promise 17: play. */
public final class Promise17Test {
    public static void main(String[] args) {
        Tests.of(Promise17Test.class);
    }

    /** "if there is no such STEP": "a STEP (0 to 7)" */
    static void theFirstAndTheLastStep(Due due) {
        for (int step = 0; step < 8; step++) {
            Melodeon m = new Melodeon();
            m.write(1, step, 9, 10, 11);
            due.no("play(" + step + ")", m.play(step));
            due.same("step()", m.step(), step);
            m.sample();
            due.same("its NOTE has begun", m.ofVoice(0, 3), 9);
            due.same("step()", m.step(), step);
        }
    }

    /** "Throws IndexOutOfBoundsException if there is no such STEP": it plays on as it did */
    static void thereIsNoStepBeyond(Due due) {
        for (int step : Twins.outside(0, 7)) {
            Twins.noPlace(due, "play(" + step + ")", m -> m.play(step));
        }
    }

    /** The same, of one that does not PLAY: it does not begin to. */
    static void thereIsNoStepBeyondForOneThatDoesNotPlay(Due due) {
        for (int step : Twins.outside(0, 7)) {
            Melodeon m = new Melodeon();
            due.noPlace("play(" + step + ")", () -> m.play(step));
            due.no("isPlaying()", m.isPlaying());
            due.same("step()", m.step(), -1);
        }
    }

    /** "behind 7 the STEP 0" */
    static void behindTheLastStepComesTheFirst(Due due) {
        Melodeon m = new Melodeon();
        m.setTempo(2, 0);
        m.write(0, 0, 33, 10, 11);
        m.play(7);
        m.run(2);
        due.same("step()", m.step(), 0);
        due.same("nothing has begun", m.sounding(), 0);
        m.sample();
        due.same("the NOTE of the STEP 0", m.ofVoice(0, 3), 33);
        m.run(15);
        due.same("a round later, step()", m.step(), 0);
        due.same("and sounding()", m.sounding(), 1);
    }

    /** "(which BEGINS with the next sample)": not with the call */
    static void itBeginsWithTheNextSample(Due due) {
        Melodeon m = new Melodeon();
        m.write(0, 3, 9, 10, 11);
        m.play(3);
        due.yes("isPlaying()", m.isPlaying());
        due.same("sounding()", m.sounding(), 0);
        due.same("clock()", m.clock(), 0);
        m.sample();
        due.same("sounding()", m.sounding(), 1);
        due.same("LEVEL, a step of ATTACK already", m.ofVoice(0, 1), 100000);
    }

    /** "from the beginning of a STEP on ..., also if it PLAYS already": the STEP that is on begins again */
    static void theStepThatIsOnBeginsAgain(Due due) {
        Melodeon m = new Melodeon();
        m.setTempo(5, 0);
        m.write(0, 2, 9, 10, 50);
        m.play(2);
        m.run(4);
        due.yes("play(2)", m.play(2));
        due.same("sounding()", m.sounding(), 1);
        m.run(4);
        due.same("its NOTE has begun again", m.sounding(), 2);
        due.same("step() behind 4 samples", m.step(), 2);
        m.sample();
        due.same("step() behind 5 samples", m.step(), 3);
    }

    /** Told at the last moment of a STEP, or twice ahead of one sample, each STEP begins but once. */
    static void toldTwiceItBeginsOnce(Due due) {
        Melodeon m = new Melodeon();
        m.setTempo(5, 0);
        m.write(0, 2, 9, 10, 50);
        m.write(0, 4, 11, 10, 50);
        due.no("play(4)", m.play(4));
        due.yes("play(2)", m.play(2));
        due.yes("play(2)", m.play(2));
        m.run(5);
        due.same("sounding()", m.sounding(), 1);
        due.same("PITCH", m.ofVoice(0, 3), 9);
        due.yes("play(2), at the end of its last sample", m.play(2));
        m.run(5);
        due.same("sounding()", m.sounding(), 2);
        due.same("step()", m.step(), 3);
    }

    /** "Returns whether it PLAYED": not at first, and not behind stop() */
    static void itReturnsWhetherItPlayed(Due due) {
        Melodeon m = new Melodeon();
        due.no("play(0) at first", m.play(0));
        due.yes("play(0) again", m.play(0));
        m.run(30);
        due.yes("play(7)", m.play(7));
        m.stop();
        due.no("play(7) behind stop()", m.play(7));
    }

    /** "GATES go on": what is told does not end the notes that are on */
    static void theNotesThatAreOnGoOn(Due due) {
        Melodeon m = new Melodeon();
        m.write(0, 0, 9, 10, 6);
        m.play(0);
        m.run(3);
        m.play(5);
        due.same("GATE", m.ofVoice(0, 9), 3);
        due.same("state", m.ofVoice(0, 0), 1);
        m.run(3);
        due.same("GATE", m.ofVoice(0, 9), 0);
        m.sample();
        due.same("state", m.ofVoice(0, 0), 4);
    }
}
