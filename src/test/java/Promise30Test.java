/** Promise 30: taken. */
public final class Promise30Test {
    public static void main(String[] args) {
        Tests.of(Promise30Test.class);
    }

    /** None at first, nor as long as there is a FREE VOICE; then each one */
    static void onlyWithoutAFreeOne(Due due) {
        Melodeon m = new Melodeon();
        due.same("taken() at first", m.taken(), 0);
        for (int notes = 1; notes <= 10; notes++) {
            m.begin(0, 1, 1);
            due.same("taken() behind " + notes, m.taken(), Math.max(0, notes - 4));
        }
    }

    /** "from a NOTE that was not FREE": one in RELEASE is not FREE, even at the LEVEL 0 */
    static void oneInReleaseWasNotFree(Due due) {
        Melodeon m = new Melodeon();
        for (int i = 0; i < 4; i++) {
            m.begin(0, 1, 1);
        }
        m.end(2);
        due.same("LEVEL", m.ofVoice(2, 1), 0);
        due.same("begin", m.begin(0, 1, 1), 2);
        due.same("taken()", m.taken(), 1);
    }

    /** "from a NOTE that was not FREE": one that has become so is */
    static void oneThatHasBecomeFree(Due due) {
        Melodeon m = new Melodeon();
        m.setEnvelope(0, 1, 1, 1000, 1);
        for (int i = 0; i < 4; i++) {
            m.begin(0, 1, 1);
        }
        m.sample();
        m.end(3);
        m.sample();
        due.same("begin", m.begin(0, 1, 1), 3);
        due.same("taken()", m.taken(), 0);
        m.hush();
        due.same("begin", m.begin(0, 1, 1), 0);
        due.same("taken() behind hush()", m.taken(), 0);
    }

    /** TRACKS take them too, three in one sample. */
    static void byTracksToo(Due due) {
        Melodeon m = new Melodeon();
        for (int i = 0; i < 4; i++) {
            m.begin(0, 1, 1);
        }
        for (int track = 0; track < 3; track++) {
            m.write(track, 0, 1, 1, 1);
        }
        m.play(0);
        due.same("taken() ahead of it", m.taken(), 0);
        m.sample();
        due.same("taken() behind it", m.taken(), 3);
    }

    /** Neither reset() nor hush() counts it anew, and what would come does not count. */
    static void itStays(Due due) {
        Melodeon m = new Melodeon();
        for (int i = 0; i < 6; i++) {
            m.begin(0, 1, 1);
        }
        m.write(0, 0, 1, 1, 1);
        m.play(0);
        m.wouldPeak(200);
        m.silentIn(200);
        m.nextVoice();
        due.noArgument("begin(0, 48, 1)", () -> m.begin(0, 48, 1));
        m.reset();
        m.hush();
        due.same("taken()", m.taken(), 2);
    }

    /** As many as an object may be asked for: four in each of the last calls but three */
    static void asManyAsThereMayBe(Due due) {
        Melodeon m = new Melodeon();
        m.setTempo(1, 0);
        for (int track = 0; track < 3; track++) {
            for (int step = 0; step < 8; step++) {
                m.write(track, step, 1, 1, 200);
            }
        }
        m.play(0);
        for (int call = 0; call < 480; call++) {
            m.run(200);
        }
        due.same("taken()", m.taken(), 3 * 200 * 480 - 4);
    }
}
