/** Promise 7: setFilter. What LOW and BAND do is in Promise19FilterTest. */
public final class Promise07Test {
    public static void main(String[] args) {
        Tests.of(Promise07Test.class);
    }

    private static Melodeon note(int cutoff, int damping) {
        Melodeon m = Sounds.flat(1000);
        m.setFilter(0, cutoff, damping);
        m.begin(0, 0, 127);
        return m;
    }

    private static void filter(Due due, Melodeon m, int low, int band) {
        m.sample();
        due.same("LOW at the clock " + m.clock(), m.ofVoice(0, 7), low);
        due.same("BAND at the clock " + m.clock(), m.ofVoice(0, 8), band);
    }

    /** "if there is no such INSTRUMENT": 0 to 3 are, and each has its own */
    static void theFirstAndTheLastInstrument(Due due) {
        Melodeon m = new Melodeon();
        for (int i = 0; i < 4; i++) {
            m.setWaves(i, 1, 1, 0, 0);
            due.same("setFilter of " + i, m.setFilter(i, 64 + i, 256), 128);
            m.begin(i, 0, 127);
        }
        m.sample();
        int[] bands = {250, 253, 257, 261};
        for (int i = 0; i < 4; i++) {
            due.same("1000 * (64 + " + i + ") / 256", m.ofVoice(i, 8), bands[i]);
            due.same("CUTOFF before of " + i, m.setFilter(i, 1, 16), 64 + i);
        }
    }

    /** "Throws IndexOutOfBoundsException if there is no such INSTRUMENT" */
    static void thereIsNoInstrumentBeyond(Due due) {
        for (int i : Twins.outside(0, 3)) {
            Twins.noPlace(due, "setFilter(" + i + ", 50, 51)", m -> m.setFilter(i, 50, 51));
        }
    }

    /** "if cutoff is not 1 to 128": with 1 the BAND is a 256th */
    static void theLeastCutoff(Due due) {
        Melodeon m = note(1, 256);
        filter(due, m, 0, 3);
        filter(due, m, 0, 6);
        due.same("CUTOFF before", m.setFilter(0, 5, 256), 1);
    }

    /** "if cutoff is not 1 to 128": with 128 it is the half */
    static void theGreatestCutoff(Due due) {
        Melodeon m = note(128, 256);
        filter(due, m, 0, 500);
        filter(due, m, 250, 625);
        due.same("CUTOFF before", m.setFilter(0, 5, 256), 128);
    }

    /** "Throws IllegalArgumentException if cutoff is not 1 to 128" */
    static void noCutoffIsBeyond(Due due) {
        for (int cutoff : Twins.outside(1, 128)) {
            Twins.noArgument(due, "setFilter(0, " + cutoff + ", 51)", m -> m.setFilter(0, cutoff, 51));
        }
    }

    /** "damping is not 16 to 256": with 16 a sixteenth of BAND is taken off, 31 of 500 */
    static void theLeastDamping(Due due) {
        Melodeon m = note(128, 16);
        filter(due, m, 0, 500);
        filter(due, m, 250, 500 + (1000 - 250 - 31) / 2);
    }

    /** "damping is not 16 to 256": with 256 all of it is */
    static void theGreatestDamping(Due due) {
        Melodeon m = note(128, 256);
        filter(due, m, 0, 500);
        filter(due, m, 250, 500 + (1000 - 250 - 500) / 2);
    }

    /** "Throws IllegalArgumentException if ... damping is not 16 to 256" */
    static void noDampingIsBeyond(Due due) {
        for (int damping : Twins.outside(16, 256)) {
            Twins.noArgument(due, "setFilter(0, 50, " + damping + ")", m -> m.setFilter(0, 50, damping));
        }
        Twins.noArgument(due, "setFilter(0, 50, 0)", m -> m.setFilter(0, 50, 0));
    }

    /** "If several exceptions apply, the one that is named first is thrown": that of the INSTRUMENT */
    static void theInstrumentIsNamedFirst(Due due) {
        Twins.noPlace(due, "setFilter(4, 0, 51)", m -> m.setFilter(4, 0, 51));
        Twins.noPlace(due, "setFilter(-1, 50, 257)", m -> m.setFilter(-1, 50, 257));
        Twins.noArgument(due, "setFilter(0, 129, 15)", m -> m.setFilter(0, 129, 15));
    }

    /** "by its INSTRUMENT as it is now": a note that is on has the new filter with the next sample */
    static void itCountsFromTheNextSampleOn(Due due) {
        Melodeon m = note(128, 256);
        filter(due, m, 0, 500);
        m.setFilter(0, 64, 16);
        due.same("BAND as it was", m.ofVoice(0, 8), 500);
        filter(due, m, 125, 500 + (1000 - 125 - 31) / 4);
    }
}
