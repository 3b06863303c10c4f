/** Promise 37: nextVoice. Which VOICE a NOTE takes is in Promise11Test. */
public final class Promise37Test {
    public static void main(String[] args) {
        Tests.of(Promise37Test.class);
    }

    private static Melodeon full() {
        Melodeon m = new Melodeon();
        for (int voice = 0; voice < 4; voice++) {
            due(m.begin(0, voice, 100), voice);
        }
        return m;
    }

    private static void due(int voice, int due) {
        if (voice != due) {
            throw new IllegalStateException("begin answered " + voice);
        }
    }

    /** From all FREE to none: 0 to 3, then the first again */
    static void fromAllFreeToNone(Due due) {
        Melodeon m = new Melodeon();
        for (int i = 0; i < 9; i++) {
            due.same("nextVoice() of " + i, m.nextVoice(), i % 4);
            due.same("begin", m.begin(0, 1, 1), i % 4);
        }
    }

    /** The one FREE VOICE, whichever it is, and of two the smaller number */
    static void theFreeOne(Due due) {
        for (int free = 0; free < 4; free++) {
            Melodeon m = full();
            m.end(free);
            m.sample();
            due.same("nextVoice()", m.nextVoice(), free);
            m.end(3);
            m.sample();
            due.same("nextVoice()", m.nextVoice(), free);
        }
    }

    /** The one in RELEASE, whichever it is; of the same LEVEL the smaller number */
    static void theReleasedOne(Due due) {
        for (int released = 0; released < 4; released++) {
            Melodeon m = full();
            m.run(20);
            m.end(released);
            due.same("nextVoice()", m.nextVoice(), released);
            m.end(1);
            due.same("nextVoice()", m.nextVoice(), Math.min(released, 1));
        }
    }

    /** "if it began now": one whose GATE is over, but that has not ENDED yet, is not in RELEASE now */
    static void asTheVoicesAreNow(Due due) {
        Melodeon m = new Melodeon();
        for (int i = 0; i < 3; i++) {
            m.begin(0, 1, 1);
        }
        m.write(0, 0, 1, 1, 1);
        m.play(0);
        m.sample();
        due.same("GATE of 3", m.ofVoice(3, 9), 0);
        due.same("nextVoice()", m.nextVoice(), 0);
        m.sample();
        due.same("nextVoice(), it has ENDED", m.nextVoice(), 3);
    }

    /** "---- what would be (nothing is changed)": neither taken() nor any VOICE */
    static void nothingIsChanged(Due due) {
        Twins.unchanged(due, "nextVoice()", m -> m.nextVoice());
        Melodeon m = full();
        m.nextVoice();
        due.same("taken()", m.taken(), 0);
        due.same("PITCH of 0", m.ofVoice(0, 3), 0);
        due.same("nextVoice() again", m.nextVoice(), 0);
    }
}
