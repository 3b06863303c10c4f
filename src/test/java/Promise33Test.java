/** Promise 33: ofStep. */
public final class Promise33Test {
    public static void main(String[] args) {
        Tests.of(Promise33Test.class);
    }

    /** "0 its PITCH (-1 if it is empty), 1 its force, 2 its GATE (both 0 if it is empty)": each STEP at first */
    static void anEmptyOne(Due due) {
        Melodeon m = new Melodeon();
        for (int track = 0; track < 3; track++) {
            for (int step = 0; step < 8; step++) {
                for (int what = 0; what < 3; what++) {
                    due.same("ofStep(" + track + ", " + step + ", " + what + ")", m.ofStep(track, step, what),
                        what == 0 ? -1 : 0);
                }
            }
        }
    }

    /** "(both 0 if it is empty)": also one that was written, and emptied with a force and a GATE */
    static void oneThatIsEmptyAgain(Due due) {
        Melodeon m = new Melodeon();
        m.write(1, 2, 3, 4, 5);
        m.write(1, 2, -1, 6, 7);
        due.same("ofStep(1, 2, 0)", m.ofStep(1, 2, 0), -1);
        due.same("ofStep(1, 2, 1)", m.ofStep(1, 2, 1), 0);
        due.same("ofStep(1, 2, 2)", m.ofStep(1, 2, 2), 0);
    }

    /** The least and the greatest that a STEP may have: a PITCH of 0 is not empty */
    static void theLeastAndTheGreatest(Due due) {
        Melodeon m = new Melodeon();
        m.write(0, 0, 0, 1, 1);
        m.write(2, 7, 47, 127, 200);
        int[] least = {0, 1, 1};
        int[] greatest = {47, 127, 200};
        for (int what = 0; what < 3; what++) {
            due.same("ofStep(0, 0, " + what + ")", m.ofStep(0, 0, what), least[what]);
            due.same("ofStep(2, 7, " + what + ")", m.ofStep(2, 7, what), greatest[what]);
        }
    }

    /** "Throws IndexOutOfBoundsException if there is no such TRACK" */
    static void thereIsNoTrackBeyond(Due due) {
        for (int track : Twins.outside(0, 2)) {
            Twins.noPlace(due, "ofStep(" + track + ", 0, 0)", m -> m.ofStep(track, 0, 0));
            Twins.noPlace(due, "ofStep(" + track + ", 7, 2)", m -> m.ofStep(track, 7, 2));
        }
    }

    /** "Throws IndexOutOfBoundsException if there is no such ... STEP", though the next TRACK would have one there */
    static void thereIsNoStepBeyond(Due due) {
        for (int step : Twins.outside(0, 7)) {
            for (int track = 0; track < 3; track++) {
                int asked = track;
                Twins.noPlace(due, "ofStep(" + track + ", " + step + ", 0)", m -> m.ofStep(asked, step, 0));
            }
        }
    }

    /** "Throws IllegalArgumentException if what is not 0 to 2", of an empty STEP and of one that is not */
    static void thereIsNothingElse(Due due) {
        for (int what : Twins.outside(0, 2)) {
            Twins.noArgument(due, "ofStep(0, 0, " + what + ")", m -> m.ofStep(0, 0, what));
            Twins.noArgument(due, "ofStep(2, 7, " + what + ")", m -> m.ofStep(2, 7, what));
        }
    }

    /** "If several exceptions apply, the one that is named first is thrown": that of the TRACK, or STEP */
    static void whatThereIsNotIsNamedFirst(Due due) {
        Twins.noPlace(due, "ofStep(3, 0, 3)", m -> m.ofStep(3, 0, 3));
        Twins.noPlace(due, "ofStep(0, 8, -1)", m -> m.ofStep(0, 8, -1));
        Twins.noPlace(due, "ofStep(-1, -1, -1)", m -> m.ofStep(-1, -1, -1));
    }

    /** It only tells: nothing is changed. */
    static void nothingIsChanged(Due due) {
        Twins.unchanged(due, "ofStep(2, 7, 2)", m -> m.ofStep(2, 7, 2));
    }
}
