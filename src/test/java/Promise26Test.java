/** Promise 26: crossings. */
public final class Promise26Test {
    public static void main(String[] args) {
        Tests.of(Promise26Test.class);
    }

    private static Melodeon note(int value) {
        Melodeon m = Sounds.flat(value);
        m.begin(0, 0, 127);
        return m;
    }

    /** None at first, and none of SAMPLES that are all 0: 0 is not above 0 */
    static void ofNothing(Due due) {
        Melodeon m = new Melodeon();
        due.same("crossings()", m.crossings(), 0);
        m.run(200);
        due.same("crossings() of 0", m.crossings(), 0);
    }

    /** "(ahead of the very first one there was a 0 ...)": the first one is 0 itself, the second is above 0 behind it */
    static void theVeryFirstOne(Due due) {
        Melodeon m = note(1000);
        due.same("sample()", m.sample(), 0);
        due.same("crossings()", m.crossings(), 0);
        due.same("sample()", m.sample(), 1000);
        due.same("crossings()", m.crossings(), 1);
    }

    /** "above 0 behind one that was 0": 1 is above 0, and 2 behind 1 is no crossing */
    static void theLeastAboveZero(Due due) {
        Melodeon m = Sounds.flat(1000);
        m.setGain(1);
        m.begin(0, 0, 9);
        m.sample();
        due.same("sample()", m.sample(), 1);
        due.same("crossings() of 0, 1", m.crossings(), 1);
        due.same("sample()", m.sample(), 2);
        due.same("crossings() of 0, 1, 2", m.crossings(), 1);
        m.hush();
        m.sample();
        due.same("crossings() of 0, 1, 2, 0", m.crossings(), 1);
        m.begin(0, 0, 9);
        m.sample();
        m.sample();
        due.same("crossings() of 0, 1, 2, 0, 0, 1", m.crossings(), 2);
    }

    /** "behind one that was 0 or less": -1 is less; from there to 0 is none */
    static void theGreatestBelowZero(Due due) {
        Melodeon m = Sounds.flat(-1000);
        m.setGain(1);
        m.setDelay(1, 256, 0);
        m.begin(0, 0, 9);
        due.same("run(2)", m.run(2), -1);
        m.hush();
        due.same("-1 of the row", m.sample(), -1);
        due.same("sample()", m.sample(), 0);
        due.same("crossings() of 0, -1, -1, 0", m.crossings(), 0);
        m.begin(0, 0, 9);
        due.same("run(2)", m.run(2), -1);
        m.hush();
        Sounds.drawFlat(m, 1000);
        m.begin(0, 0, 9);
        due.same("-1 of the row", m.sample(), -1);
        due.same("sample()", m.sample(), 1);
        due.same("crossings() with 1 behind -1", m.crossings(), 1);
    }

    /** "behind one that was ... less": far below 0 too */
    static void fromFarBelowZero(Due due) {
        Melodeon m = Sounds.flat(-1000);
        m.setGain(256);
        m.setDelay(1, 256, 0);
        m.begin(0, 0, 127);
        due.same("run(2)", m.run(2), -4000);
        m.hush();
        Sounds.drawFlat(m, 1000);
        m.begin(0, 0, 127);
        due.same("-4000 of the row", m.sample(), -4000);
        due.same("crossings() below 0", m.crossings(), 0);
        due.same("sample()", m.sample(), 4000);
        due.same("crossings() with 4000 behind -4000", m.crossings(), 1);
    }

    /** "above 0 behind one that was": not below 0 behind one above it, nor 0 behind that */
    static void notOnTheWayDown(Due due) {
        Melodeon m = note(1000);
        m.run(3);
        due.same("crossings()", m.crossings(), 1);
        m.hush();
        m.sample();
        Sounds.drawFlat(m, -1000);
        m.begin(0, 0, 127);
        m.run(3);
        due.same("heard(0)", m.heard(0), -2248);
        due.same("crossings()", m.crossings(), 1);
    }

    /** "the one ahead of reset() counts as that behind which the next one comes": above 0, so there is none */
    static void resetBehindOneAboveZero(Due due) {
        Melodeon m = note(1000);
        m.run(2);
        m.reset();
        due.same("crossings() behind reset()", m.crossings(), 0);
        m.sample();
        due.same("crossings() of 2248 behind 1000", m.crossings(), 0);
    }

    /** The same: it was 0, so there is one */
    static void resetBehindZero(Due due) {
        Melodeon m = note(1000);
        m.sample();
        m.reset();
        m.sample();
        due.same("crossings() of 1000 behind 0", m.crossings(), 1);
    }

    /** The same, with nothing heard yet, and told twice */
    static void resetAheadOfTheFirst(Due due) {
        Melodeon m = note(1000);
        m.reset();
        m.reset();
        m.run(2);
        due.same("crossings() of 0, 1000", m.crossings(), 1);
        m.reset();
        m.reset();
        m.sample();
        due.same("crossings() of 2248 behind 1000", m.crossings(), 0);
    }

    /** What would come is not counted, nor is it what the next one comes behind. */
    static void notWhatWouldCome(Due due) {
        Melodeon m = note(1000);
        m.wouldPeak(2);
        m.silentIn(2);
        due.same("crossings()", m.crossings(), 0);
        m.run(2);
        due.same("crossings()", m.crossings(), 1);
    }
}
