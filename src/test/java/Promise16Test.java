/** Promise 16: setTempo. */
public final class Promise16Test {
    public static void main(String[] args) {
        Tests.of(Promise16Test.class);
    }

    /** A STEP has so many samples: behind one less it is on, behind all of them the next one is. */
    private static void length(Due due, Melodeon m, int step, int samples) {
        due.same("the STEP that begins", m.step(), step);
        for (int left = samples - 1; left > 0; left -= Math.min(left, 200)) {
            m.run(Math.min(left, 200));
        }
        due.same("the STEP behind " + (samples - 1), m.step(), step);
        m.sample();
        due.same("the STEP behind " + samples, m.step(), (step + 1) % 8);
    }

    /** "if tempo is not 1 to 200": with 1 each sample has a STEP of its own */
    static void theLeastTempo(Due due) {
        Melodeon m = new Melodeon();
        due.same("setTempo(1, 0)", m.setTempo(1, 0), 20);
        m.play(0);
        for (int i = 0; i < 17; i++) {
            length(due, m, i % 8, 1);
        }
        due.same("TEMPO before", m.setTempo(5, 0), 1);
    }

    /** "if tempo is not 1 to 200": with 200 a STEP has 200 */
    static void theGreatestTempo(Due due) {
        Melodeon m = new Melodeon();
        m.setTempo(200, 0);
        m.play(6);
        length(due, m, 6, 200);
        length(due, m, 7, 200);
        length(due, m, 0, 200);
        due.same("TEMPO before", m.setTempo(5, 0), 200);
    }

    /** "Throws IllegalArgumentException if tempo is not 1 to 200" */
    static void noTempoIsBeyond(Due due) {
        for (int tempo : Twins.outside(1, 200)) {
            Twins.noArgument(due, "setTempo(" + tempo + ", 0)", m -> m.setTempo(tempo, 0));
            Twins.noArgument(due, "setTempo(" + tempo + ", 3)", m -> m.setTempo(tempo, 3));
        }
        Twins.noArgument(due, "setTempo(-5, -6)", m -> m.setTempo(-5, -6));
        // tempo - 1 wraps around here: it must not make a swing of anything allowed
        Twins.noArgument(due, "setTempo of the least int and 7", m -> m.setTempo(Integer.MIN_VALUE, 7));
        Twins.noArgument(due, "setTempo of the least and the greatest int",
            m -> m.setTempo(Integer.MIN_VALUE, Integer.MAX_VALUE));
    }

    /** "swing is not 0 to tempo - 1": with 0 all STEPS have as many */
    static void theLeastSwing(Due due) {
        Melodeon m = new Melodeon();
        m.setTempo(4, 3);
        m.setTempo(4, 0);
        m.play(0);
        for (int i = 0; i < 9; i++) {
            length(due, m, i % 8, 4);
        }
    }

    /** "swing is not 0 to tempo - 1": with tempo - 1 "the STEPS 0, 2, 4 and 6 have more, and the other ones less": 1 */
    static void theGreatestSwing(Due due) {
        Melodeon m = new Melodeon();
        m.setTempo(4, 3);
        m.play(0);
        for (int i = 0; i < 9; i++) {
            length(due, m, i % 8, i % 2 == 0 ? 7 : 1);
        }
        Melodeon slow = new Melodeon();
        slow.setTempo(200, 199);
        slow.play(7);
        length(due, slow, 7, 1);
        length(due, slow, 0, 399);
        length(due, slow, 1, 1);
    }

    /** "Throws IllegalArgumentException if ... swing is not 0 to tempo - 1" */
    static void noSwingIsBeyond(Due due) {
        for (int tempo : new int[] {1, 2, 20, 200}) {
            for (int swing : Twins.outside(0, tempo - 1)) {
                Twins.noArgument(due, "setTempo(" + tempo + ", " + swing + ")", m -> m.setTempo(tempo, swing));
            }
        }
    }

    /** "Returns TEMPO before (as it was set last)": also if no STEP has begun since */
    static void itReturnsTheTempoAsItWasSetLast(Due due) {
        Melodeon m = new Melodeon();
        m.setTempo(9, 0);
        m.play(0);
        m.run(3);
        due.same("TEMPO of the STEP that is on", m.setTempo(7, 0), 9);
        due.same("TEMPO that no STEP has yet", m.setTempo(5, 0), 7);
        due.same("TEMPO again", m.setTempo(5, 4), 5);
        due.same("TEMPO again", m.setTempo(5, 4), 5);
    }

    /** "it counts from the next STEP that begins on"; "How many samples a STEP has is settled as it begins" */
    static void theStepThatIsOnIsSettled(Due due) {
        Melodeon m = new Melodeon();
        m.setTempo(6, 2);
        m.play(0);
        m.sample();
        m.setTempo(3, 1);
        m.run(6);
        due.same("the STEP behind 7 of 8", m.step(), 0);
        m.sample();
        length(due, m, 1, 2);
        length(due, m, 2, 4);
        m.sample();
        m.setTempo(200, 0);
        due.same("the STEP behind 1 of 2", m.step(), 3);
        m.sample();
        due.same("the STEP behind 2 of 2", m.step(), 4);
    }

    /** "what is ... set till then counts for it": between the last sample of a STEP and the first of the next one */
    static void itCountsTillTheStepBegins(Due due) {
        Melodeon m = new Melodeon();
        m.setTempo(3, 0);
        m.play(0);
        m.setTempo(2, 0);
        length(due, m, 0, 2);
        m.setTempo(5, 0);
        length(due, m, 1, 5);
        m.setTempo(1, 0);
        length(due, m, 2, 1);
    }
}
