/** Promise 15: setTrack. */
public final class Promise15Test {
    public static void main(String[] args) {
        Tests.of(Promise15Test.class);
    }

    /** "if there is no such TRACK": 0 and 2 are, and each has its own INSTRUMENT */
    static void theFirstAndTheLastTrack(Due due) {
        Melodeon m = new Melodeon();
        for (int track = 0; track < 3; track++) {
            due.same("setTrack of " + track, m.setTrack(track, 3 - track), 0);
            m.write(track, 0, 9, 10, 11);
        }
        m.play(0);
        m.sample();
        for (int track = 0; track < 3; track++) {
            due.same("INSTRUMENT of the NOTE of " + track, m.ofVoice(track, 2), 3 - track);
            due.same("the one before of " + track, m.setTrack(track, 0), 3 - track);
        }
    }

    /** "Throws IndexOutOfBoundsException if there is no such TRACK" */
    static void thereIsNoTrackBeyond(Due due) {
        for (int track : Twins.outside(0, 2)) {
            Twins.noPlace(due, "setTrack(" + track + ", 0)", m -> m.setTrack(track, 0));
        }
    }

    /** "if there is no such ... INSTRUMENT": 0 and 3 are */
    static void theFirstAndTheLastInstrument(Due due) {
        for (int track = 0; track < 3; track++) {
            Melodeon m = new Melodeon();
            due.same("at first", m.setTrack(track, 3), 0);
            due.same("behind 3", m.setTrack(track, 0), 3);
            due.same("behind 0", m.setTrack(track, 0), 0);
        }
    }

    /** "Throws IndexOutOfBoundsException if there is no such ... INSTRUMENT" */
    static void thereIsNoInstrumentBeyond(Due due) {
        for (int instrument : Twins.outside(0, 3)) {
            for (int track = 0; track < 3; track++) {
                int told = track;
                Twins.noPlace(due, "setTrack(" + track + ", " + instrument + ")", m -> m.setTrack(told, instrument));
            }
        }
    }

    /** Both wrong have the same exception. */
    static void bothAreWrong(Due due) {
        Twins.noPlace(due, "setTrack(3, 4)", m -> m.setTrack(3, 4));
        Twins.noPlace(due, "setTrack(-1, -1)", m -> m.setTrack(-1, -1));
    }

    /** "its INSTRUMENT from now on": of a STEP that begins with the next sample, but not of a NOTE that is on */
    static void itCountsTillTheStepBegins(Due due) {
        Melodeon m = new Melodeon();
        m.setTempo(3, 0);
        m.write(0, 0, 9, 10, 100);
        m.write(0, 1, 9, 10, 100);
        m.play(0);
        m.run(3);
        due.same("setTrack(0, 2)", m.setTrack(0, 2), 0);
        due.same("the NOTE that is on", m.ofVoice(0, 2), 0);
        m.sample();
        due.same("the NOTE that is on", m.ofVoice(0, 2), 0);
        due.same("the next NOTE", m.ofVoice(1, 2), 2);
        due.same("setTrack(0, 3)", m.setTrack(0, 3), 2);
        m.run(2);
        due.same("the NOTE that is on", m.ofVoice(1, 2), 2);
    }
}
