/** Promise 3: wave. */
public final class Promise03Test {
    private static final int LAST_PHASE = 65535;
    private static final int LAST_VALUE = 31 * 2048;

    public static void main(String[] args) {
        Tests.of(Promise03Test.class);
    }

    /** "if there is no such WAVE": "There are 4 of them", so 0 and 3 are */
    static void theFirstAndTheLastWaveAreThere(Due due) {
        Melodeon m = new Melodeon();
        m.draw(0, 55);
        due.same("wave(0, 0)", m.wave(0, 0), -992);
        due.same("wave(1, 0)", m.wave(1, 0), 1000);
        due.same("wave(2, 0)", m.wave(2, 0), -1000);
        due.same("wave(3, 0)", m.wave(3, 0), 55);
    }

    /** "Throws IndexOutOfBoundsException if there is no such WAVE" */
    static void thereIsNoWaveBeyond(Due due) {
        for (int wave : Twins.outside(0, 3)) {
            Twins.noPlace(due, "wave(" + wave + ", 0)", m -> m.wave(wave, 0));
        }
    }

    /** "if phase is not 0 to 65535": 0 and 65535 are PHASES, of each WAVE */
    static void theFirstAndTheLastPhaseAreThere(Due due) {
        Melodeon m = Sounds.flat(77);
        int[] first = {-992, 1000, -1000, 77};
        int[] last = {-991, 999, -999, 77};
        for (int wave = 0; wave < 4; wave++) {
            due.same("wave(" + wave + ", 0)", m.wave(wave, 0), first[wave]);
            due.same("wave(" + wave + ", 65535)", m.wave(wave, LAST_PHASE), last[wave]);
        }
    }

    /** "Throws IllegalArgumentException if phase is not 0 to 65535" */
    static void thereIsNoPhaseBeyond(Due due) {
        for (int phase : Twins.outside(0, LAST_PHASE)) {
            for (int wave = 0; wave < 4; wave++) {
                int asked = wave;
                Twins.noArgument(due, "wave(" + wave + ", " + phase + ")", m -> m.wave(asked, phase));
            }
        }
    }

    /** "If several exceptions apply, the one that is named first is thrown": that of the WAVE */
    static void theWaveIsNamedFirst(Due due) {
        Twins.noPlace(due, "wave(-1, 65536)", m -> m.wave(-1, 65536));
        Twins.noPlace(due, "wave(4, -1)", m -> m.wave(4, -1));
    }

    /** "0 the SAW: -992 + 64 * k" from 0 to 31 */
    static void theEndsOfTheSaw(Due due) {
        Melodeon m = new Melodeon();
        due.same("VALUE 0", m.wave(0, 0), -992);
        due.same("VALUE 1", m.wave(0, 2048), -928);
        due.same("VALUE 30", m.wave(0, 30 * 2048), 928);
        due.same("VALUE 31", m.wave(0, LAST_VALUE), 992);
    }

    /** "1 the SQUARE: 1000 for k below 16, otherwise -1000" */
    static void theEdgesOfTheSquare(Due due) {
        Melodeon m = new Melodeon();
        due.same("VALUE 0", m.wave(1, 0), 1000);
        due.same("VALUE 15", m.wave(1, 15 * 2048), 1000);
        due.same("VALUE 16", m.wave(1, 16 * 2048), -1000);
        due.same("VALUE 31", m.wave(1, LAST_VALUE), -1000);
    }

    /** "2 the TRIANGLE: -1000 + 125 * k for k below 16, otherwise 1000 - 125 * (k - 16)" */
    static void theEdgesOfTheTriangle(Due due) {
        Melodeon m = new Melodeon();
        due.same("VALUE 0", m.wave(2, 0), -1000);
        due.same("VALUE 15", m.wave(2, 15 * 2048), 875);
        due.same("VALUE 16", m.wave(2, 16 * 2048), 1000);
        due.same("VALUE 17", m.wave(2, 17 * 2048), 875);
        due.same("VALUE 31", m.wave(2, LAST_VALUE), -875);
    }

    /** "b the next one (behind 31 the VALUE 0)" */
    static void behindTheLastValueComesTheFirst(Due due) {
        Melodeon m = new Melodeon();
        m.draw(31, 500);
        m.draw(0, -300);
        m.draw(1, 900);
        due.same("saw, half from 992 to -992", m.wave(0, LAST_VALUE + 1024), 0);
        due.same("square, half from -1000 to 1000", m.wave(1, LAST_VALUE + 1024), 0);
        due.same("triangle, half from -875 to -1000: -62.5", m.wave(2, LAST_VALUE + 1024), -875 - 62);
        due.same("drawn, half from 500 to -300", m.wave(3, LAST_VALUE + 1024), 100);
    }

    /** "a + (b - a) * (p % 2048) / 2048": none of b at the first PHASE of a VALUE, 2047 of 2048 at the last */
    static void theFirstAndTheLastPhaseOfAValue(Due due) {
        Melodeon m = new Melodeon();
        for (int k = 0; k < 31; k++) {
            due.same("saw, first of " + k, m.wave(0, k * 2048), -992 + 64 * k);
            due.same("saw, last of " + k + ": 63.97 more", m.wave(0, k * 2048 + 2047), -992 + 64 * k + 63);
        }
        due.same("square, last of 15: 1999.02 less", m.wave(1, 15 * 2048 + 2047), -999);
        due.same("triangle, last of 15: 124.94 more", m.wave(2, 15 * 2048 + 2047), 999);
        due.same("triangle, last of 16: 124.94 less", m.wave(2, 16 * 2048 + 2047), 876);
    }

    /** "/ is cut towards 0": what is added, be it above 0 or below, and then not the sum */
    static void whatIsAddedIsCutTowardsZero(Due due) {
        Melodeon m = new Melodeon();
        due.same("saw, 0.97 more", m.wave(0, 31), -992);
        due.same("saw, 1 more", m.wave(0, 32), -991);
        due.same("square, 0.98 less", m.wave(1, 15 * 2048 + 1), 1000);
        due.same("square, 1.95 less", m.wave(1, 15 * 2048 + 2), 999);
        due.same("triangle, 62.5 more", m.wave(2, 1024), -938);
        due.same("triangle, 62.5 less", m.wave(2, 16 * 2048 + 1024), 938);
    }

    /** The widest way from one VALUE to the next, both ways: "-1000 to 1000" of draw */
    static void theSteepestDrawnWave(Due due) {
        Melodeon m = new Melodeon();
        for (int k = 0; k < 32; k++) {
            m.draw(k, k % 2 == 0 ? -1000 : 1000);
        }
        due.same("up, the last phase", m.wave(3, 2047), 999);
        due.same("up, half", m.wave(3, 1024), 0);
        due.same("down, the last phase", m.wave(3, 2048 + 2047), -999);
        due.same("down, behind 31", m.wave(3, LAST_PHASE), -999);
    }

    /** It only tells: nothing is changed. */
    static void nothingIsChanged(Due due) {
        Twins.unchanged(due, "wave(3, 65535)", m -> m.wave(3, LAST_PHASE));
    }
}
