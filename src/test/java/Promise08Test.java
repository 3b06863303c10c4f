/** Promise 8: setVibrato. */
public final class Promise08Test {
    public static void main(String[] args) {
        Tests.of(Promise08Test.class);
    }

    /** How far the first PHASE of a new note goes in one sample, at a CLOCK; without a VIBRATO it is 256. */
    private static int step(int depth, int period, int clock) {
        Melodeon m = new Melodeon();
        m.setVibrato(0, depth, period);
        for (int left = clock; left > 0; left -= Math.min(left, 200)) {
            m.run(Math.min(left, 200));
        }
        m.begin(0, 0, 127);
        m.sample();
        return m.ofVoice(0, 5);
    }

    /** "if there is no such INSTRUMENT": 0 to 3 are, and each has its own */
    static void theFirstAndTheLastInstrument(Due due) {
        Melodeon m = new Melodeon();
        for (int i = 0; i < 4; i++) {
            due.same("setVibrato of " + i, m.setVibrato(i, 10 + i, 8), 0);
            m.begin(i, 0, 127);
        }
        m.sample();
        for (int i = 0; i < 4; i++) {
            due.same("PHASE of " + i, m.ofVoice(i, 5), 256 - 10 - i);
            due.same("DEPTH before of " + i, m.setVibrato(i, 0, 8), 10 + i);
        }
    }

    /** "Throws IndexOutOfBoundsException if there is no such INSTRUMENT" */
    static void thereIsNoInstrumentBeyond(Due due) {
        for (int i : Twins.outside(0, 3)) {
            Twins.noPlace(due, "setVibrato(" + i + ", 50, 51)", m -> m.setVibrato(i, 50, 51));
        }
    }

    /** "if depth is not 0 to 64": with 0 there is none */
    static void theLeastDepth(Due due) {
        for (int clock = 0; clock < 8; clock++) {
            due.same("PHASE, DEPTH 0, at the CLOCK " + clock, step(0, 8, clock), 256);
        }
        Melodeon m = new Melodeon();
        m.setVibrato(0, 0, 8);
        due.same("DEPTH before", m.setVibrato(0, 5, 8), 0);
    }

    /** "if depth is not 0 to 64": with 64 the TRIANGLE, from -1000 to 1000, makes -64 to 64 of it */
    static void theGreatestDepth(Due due) {
        int[] steps = {192, 224, 256, 288, 320, 288, 256, 224};
        for (int clock = 0; clock < 8; clock++) {
            due.same("PHASE, DEPTH 64, at the CLOCK " + clock, step(64, 8, clock), steps[clock]);
        }
        Melodeon m = new Melodeon();
        m.setVibrato(0, 64, 8);
        due.same("DEPTH before", m.setVibrato(0, 5, 8), 64);
    }

    /** "Throws IllegalArgumentException if depth is not 0 to 64" */
    static void noDepthIsBeyond(Due due) {
        for (int depth : Twins.outside(0, 64)) {
            Twins.noArgument(due, "setVibrato(0, " + depth + ", 51)", m -> m.setVibrato(0, depth, 51));
        }
    }

    /** "period is not 8 to 255", "CLOCK % PERIOD": with 8 the eighth sample is as the one at 0 */
    static void theLeastPeriod(Due due) {
        due.same("PHASE at the CLOCK 7: -500", step(64, 8, 7), 224);
        due.same("PHASE at the CLOCK 8: -1000", step(64, 8, 8), 192);
        due.same("PHASE at the CLOCK 9: -500", step(64, 8, 9), 224);
    }

    /** "period is not 8 to 255": 254 * 65536 / 255 is 65278, where the TRIANGLE is -984 */
    static void theGreatestPeriod(Due due) {
        due.same("PHASE at the CLOCK 1: -985, so -63.04", step(64, 255, 1), 193);
        due.same("PHASE at the CLOCK 127: 996, so 63.74", step(64, 255, 127), 319);
        due.same("PHASE at the CLOCK 253: -968, so -61.95", step(64, 255, 253), 195);
        due.same("PHASE at the CLOCK 254: -984, so -62.97", step(64, 255, 254), 194);
        due.same("PHASE at the CLOCK 255: -1000", step(64, 255, 255), 192);
    }

    /** "Throws IllegalArgumentException if ... period is not 8 to 255" */
    static void noPeriodIsBeyond(Due due) {
        for (int period : Twins.outside(8, 255)) {
            Twins.noArgument(due, "setVibrato(0, 50, " + period + ")", m -> m.setVibrato(0, 50, period));
        }
        Twins.noArgument(due, "setVibrato(0, 50, 0)", m -> m.setVibrato(0, 50, 0));
        Twins.noArgument(due, "setVibrato(0, 0, 7), though it would not be used", m -> m.setVibrato(0, 0, 7));
    }

    /** "If several exceptions apply, the one that is named first is thrown": that of the INSTRUMENT */
    static void theInstrumentIsNamedFirst(Due due) {
        Twins.noPlace(due, "setVibrato(4, 65, 51)", m -> m.setVibrato(4, 65, 51));
        Twins.noPlace(due, "setVibrato(-1, 50, 7)", m -> m.setVibrato(-1, 50, 7));
        Twins.noArgument(due, "setVibrato(0, 65, 7)", m -> m.setVibrato(0, 65, 7));
    }

    /** "v = DEPTH * w / 1000": cut towards 0 below it, and above it */
    static void whatIsAddedIsCutTowardsZero(Due due) {
        due.same("-0.5", step(1, 8, 1), 256);
        due.same("0.5", step(1, 8, 3), 256);
        due.same("-1.5", step(3, 8, 1), 255);
        due.same("1.5", step(3, 8, 3), 257);
    }

    /** "by its INSTRUMENT as it is now": a note that is on has the new VIBRATO with the next sample */
    static void itCountsFromTheNextSampleOn(Due due) {
        Melodeon m = new Melodeon();
        m.begin(0, 0, 127);
        m.run(3);
        m.setVibrato(0, 64, 8);
        due.same("PHASE as it was", m.ofVoice(0, 5), 768);
        m.sample();
        due.same("PHASE, at the CLOCK 3", m.ofVoice(0, 5), 768 + 288);
    }
}
