/** Promise 31: isPlaying. */
public final class Promise31Test {
    public static void main(String[] args) {
        Tests.of(Promise31Test.class);
    }

    /** Not at first, nor by samples or notes */
    static void notAtFirst(Due due) {
        Melodeon m = new Melodeon();
        due.no("isPlaying()", m.isPlaying());
        m.write(0, 0, 1, 1, 1);
        m.begin(0, 1, 1);
        m.run(200);
        due.no("isPlaying() behind samples", m.isPlaying());
    }

    /** With play(), ahead of the first sample, and behind the last STEP, till stop() */
    static void fromPlayToStop(Due due) {
        Melodeon m = new Melodeon();
        m.setTempo(1, 0);
        m.play(7);
        due.yes("isPlaying() ahead of the first sample", m.isPlaying());
        m.sample();
        due.yes("isPlaying() behind the STEP 7", m.isPlaying());
        m.run(200);
        due.yes("isPlaying() many rounds later", m.isPlaying());
        m.hush();
        due.yes("isPlaying() behind hush()", m.isPlaying());
        m.stop();
        due.no("isPlaying() behind stop()", m.isPlaying());
        m.stop();
        due.no("isPlaying() behind another", m.isPlaying());
    }

    /** A play() that is refused lets it be as it is. */
    static void aRefusedPlay(Due due) {
        Melodeon m = new Melodeon();
        due.noPlace("play(8)", () -> m.play(8));
        due.no("isPlaying()", m.isPlaying());
        m.play(0);
        due.noPlace("play(-1)", () -> m.play(-1));
        due.yes("isPlaying()", m.isPlaying());
    }
}
