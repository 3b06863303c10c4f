/** Promise 22: clock. */
public final class Promise22Test {
    public static void main(String[] args) {
        Tests.of(Promise22Test.class);
    }

    /** "The CLOCK is 0 at first" */
    static void zeroAtFirst(Due due) {
        due.same("clock()", new Melodeon().clock(), 0);
    }

    /** "Then the CLOCK becomes 1 more": with each sample, of a run too */
    static void oneMoreWithEachSample(Due due) {
        Melodeon m = new Melodeon();
        for (int i = 1; i <= 5; i++) {
            m.sample();
            due.same("clock()", m.clock(), i);
        }
        m.run(1);
        due.same("clock() behind run(1)", m.clock(), 6);
        m.run(200);
        due.same("clock() behind run(200)", m.clock(), 206);
    }

    /** As far as an object may go, with nothing but the greatest runs, and a call for asking. */
    static void asFarAsItGoes(Due due) {
        Melodeon m = new Melodeon();
        for (int call = 0; call < 511; call++) {
            m.run(200);
        }
        due.same("clock()", m.clock(), 102200);
    }

    /** What makes no SAMPLE leaves it as it is, reset() and what would be as well. */
    static void nothingElseMovesIt(Due due) {
        Melodeon m = new Melodeon();
        m.run(7);
        m.reset();
        m.begin(0, 0, 1);
        m.end(0);
        m.hush();
        m.play(3);
        m.stop();
        m.setTempo(5, 0);
        m.setDelay(5, 5, 5);
        m.wouldPeak(200);
        m.silentIn(200);
        m.digest();
        due.noArgument("run(201)", () -> m.run(201));
        due.same("clock()", m.clock(), 7);
    }
}
