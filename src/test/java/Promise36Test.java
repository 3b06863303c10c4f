/** Promise 36: silentIn. */
public final class Promise36Test {
    public static void main(String[] args) {
        Tests.of(Promise36Test.class);
    }

    /** A note in RELEASE: it is FREE behind so many samples. */
    private static Melodeon released(int release) {
        Melodeon m = new Melodeon();
        m.setEnvelope(0, 1, 1, 1000, release);
        m.begin(0, 0, 127);
        m.run(2);
        m.end(0);
        return m;
    }

    /** "if many is not 1 to 200": with 1, silent behind 1 sample, or behind more */
    static void theLeast(Due due) {
        due.same("silentIn(1), behind 1", released(1).silentIn(1), 1);
        due.same("silentIn(1), behind 2", released(2).silentIn(1), -1);
        due.same("silentIn(1), silent now", new Melodeon().silentIn(1), 0);
    }

    /** "if many is not 1 to 200": with 200, silent behind 200 samples, or behind 201 */
    static void theGreatest(Due due) {
        due.same("silentIn(200), behind 200", released(200).silentIn(200), 200);
        Melodeon m = released(400);
        m.run(199);
        due.same("silentIn(200), behind 201", m.silentIn(200), -1);
        m.sample();
        due.same("silentIn(200), behind 200 of 400", m.silentIn(200), 200);
    }

    /** "Throws IllegalArgumentException if many is not 1 to 200": also if none sounds, where the answer would be 0 */
    static void noOtherMany(Due due) {
        for (int many : Twins.outside(1, 200)) {
            Twins.noArgument(due, "silentIn(" + many + ")", m -> m.silentIn(many));
            Melodeon m = new Melodeon();
            due.noArgument("silentIn(" + many + ") of silence", () -> m.silentIn(many));
        }
        Twins.noArgument(due, "silentIn(-1)", m -> m.silentIn(-1));
    }

    /** "-1 if one does behind each of so many": behind exactly so many, and behind 1 more */
    static void atTheEdgeOfSoMany(Due due) {
        Melodeon m = released(10);
        due.same("silentIn(11)", m.silentIn(11), 10);
        due.same("silentIn(10)", m.silentIn(10), 10);
        due.same("silentIn(9)", m.silentIn(9), -1);
        due.same("silentIn(1)", m.silentIn(1), -1);
    }

    /** "(0 if none does now ...)": without any, and behind hush() */
    static void noneSoundsNow(Due due) {
        due.same("silentIn(200)", new Melodeon().silentIn(200), 0);
        Melodeon m = released(10);
        m.hush();
        due.same("silentIn(200) behind hush()", m.silentIn(200), 0);
    }

    /** "(0 if none does now, also if a NOTE would BEGIN with the next sample)" */
    static void thoughOneWouldBegin(Due due) {
        Melodeon m = new Melodeon();
        m.write(0, 0, 1, 1, 200);
        m.play(0);
        due.same("silentIn(200)", m.silentIn(200), 0);
        m.sample();
        due.same("silentIn(200) as it has begun", m.silentIn(200), -1);
    }

    /** "no VOICE would sound": what the row of the DELAY holds is none */
    static void theDelayDoesNotCount(Due due) {
        Melodeon m = Sounds.flat(1000);
        m.setDelay(3, 256, 256);
        m.begin(0, 0, 127);
        m.run(3);
        m.end(0);
        due.same("silentIn(200)", m.silentIn(200), 1);
        m.sample();
        due.same("silentIn(200)", m.silentIn(200), 0);
        due.yes("though it is heard", m.wouldPeak(9) > 0);
    }

    /** A VOICE at the LEVEL 0, in SUSTAIN, sounds on. */
    static void atTheLevelZero(Due due) {
        Melodeon m = new Melodeon();
        m.setEnvelope(0, 1, 1, 0, 1);
        m.begin(0, 0, 1);
        m.run(9);
        due.same("silentIn(200)", m.silentIn(200), -1);
        m.end(0);
        due.same("silentIn(200), ended", m.silentIn(200), 1);
    }

    /** "with ... GATES going on": 1 left and 5 of RELEASE; 0 left and 5 */
    static void gatesGoOn(Due due) {
        Melodeon m = new Melodeon();
        m.setEnvelope(0, 1, 1, 1000, 5);
        m.write(0, 0, 1, 1, 4);
        m.play(0);
        m.run(3);
        m.stop();
        due.same("GATE", m.ofVoice(0, 9), 1);
        due.same("silentIn(200)", m.silentIn(200), 6);
        m.sample();
        due.same("GATE", m.ofVoice(0, 9), 0);
        due.same("silentIn(200)", m.silentIn(200), 5);
        m.sample();
        due.same("silentIn(200)", m.silentIn(200), 4);
    }

    /** "with TRACKS ... going on": a NOTE that BEGINS ahead of the silence, with it, or behind it */
    static void tracksGoOn(Due due) {
        Melodeon m = new Melodeon();
        m.setEnvelope(0, 1, 1, 1000, 1);
        m.write(0, 0, 1, 1, 4);
        m.write(0, 1, 1, 1, 4);
        m.setTempo(4, 0);
        m.play(0);
        m.sample();
        due.same("the next one begins as this one ends", m.silentIn(200), 8);
        m.setTempo(5, 0);
        m.play(0);
        m.sample();
        due.same("two of the STEP 0, then none ahead of the STEP 1", m.silentIn(200), 4);
    }

    /** "for the first time": it sounds again behind that */
    static void theFirstTimeCounts(Due due) {
        Melodeon m = new Melodeon();
        m.setEnvelope(0, 1, 1, 1000, 1);
        m.setTempo(3, 0);
        for (int step = 0; step < 8; step++) {
            m.write(0, step, 1, 1, 1);
        }
        m.play(0);
        m.sample();
        due.same("silentIn(200)", m.silentIn(200), 1);
        m.run(3);
        due.same("silentIn(200), the next one", m.silentIn(200), 1);
    }

    /** Of several VOICES it is the last one. */
    static void allOfThem(Due due) {
        Melodeon m = released(10);
        m.setEnvelope(1, 1, 1, 1000, 40);
        m.begin(1, 0, 127);
        m.run(2);
        due.same("one is not ended", m.silentIn(200), -1);
        m.end(1);
        due.same("both are", m.silentIn(200), 40);
    }

    /** "---- what would be (nothing is changed)" */
    static void nothingIsChanged(Due due) {
        for (int many : new int[] {1, 17, 200}) {
            Twins.unchanged(due, "silentIn(" + many + ")", m -> m.silentIn(many));
        }
    }
}
