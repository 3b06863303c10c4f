/** Promise 20: run. */
public final class Promise20Test {
    public static void main(String[] args) {
        Tests.of(Promise20Test.class);
    }

    /** "if many is not 1 to 200": 1 is as a sample() */
    static void theLeast(Due due) {
        Melodeon one = Twins.past();
        Melodeon other = Twins.past();
        due.same("run(1)", one.run(1), other.sample());
        due.same("behind run(1)", Twins.story(one), Twins.story(other));
    }

    /** "if many is not 1 to 200": 200 is as 200 times sample(); "Returns the last one" */
    static void theGreatest(Due due) {
        Melodeon one = Sounds.busy();
        Melodeon other = Sounds.busy();
        int last = 0;
        for (int i = 0; i < 200; i++) {
            last = other.sample();
        }
        due.same("run(200)", one.run(200), last);
        due.same("heard(0)", one.heard(0), last);
        due.same("clock()", one.clock(), 223);
        due.same("digest()", one.digest(), other.digest());
        due.same("loudness()", one.loudness(), other.loudness());
        due.same("reset()", one.reset(), other.reset());
    }

    /** "Throws IllegalArgumentException if many is not 1 to 200": no SAMPLE is made */
    static void noOtherMany(Due due) {
        for (int many : Twins.outside(1, 200)) {
            Twins.noArgument(due, "run(" + many + ")", m -> m.run(many));
            Melodeon m = new Melodeon();
            due.noArgument("run(" + many + ")", () -> m.run(many));
            due.same("clock()", m.clock(), 0);
            due.same("reset()", m.reset(), 0);
        }
        Twins.noArgument(due, "run(-1)", m -> m.run(-1));
    }

    /** "Returns the last one": not the loudest, and as it is clipped */
    static void itReturnsTheLastOne(Due due) {
        Melodeon m = Sounds.flat(1000);
        m.setGain(256);
        for (int i = 0; i < 4; i++) {
            m.begin(0, 0, 127);
        }
        due.same("run(2)", m.run(2), 16000);
        due.same("run(1), clipped", m.run(1), 32767);
        m.hush();
        due.same("run(9)", m.run(9), 0);
    }

    /** So many at once are as many as one by one, STEPS and GATES among them. */
    static void manyAtOnceAreAsManyOneByOne(Due due) {
        Melodeon one = Twins.past();
        Melodeon other = Twins.past();
        one.run(37);
        for (int i = 0; i < 37; i++) {
            other.sample();
        }
        due.same("behind 37 samples", Twins.story(one), Twins.story(other));
    }
}
