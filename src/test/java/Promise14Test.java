/** Promise 14: write. */
public final class Promise14Test {
    public static void main(String[] args) {
        Tests.of(Promise14Test.class);
    }

    private static void step(Due due, Melodeon m, int track, int step, int pitch, int force, int gate) {
        String at = " of the STEP " + step + " of the TRACK " + track;
        due.same("PITCH" + at, m.ofStep(track, step, 0), pitch);
        due.same("force" + at, m.ofStep(track, step, 1), force);
        due.same("GATE" + at, m.ofStep(track, step, 2), gate);
    }

    /** "if there is no such TRACK, or STEP": "There are 3", and "8 STEPS", and each is written alone */
    static void theFirstAndTheLastTrackAndStep(Due due) {
        for (int place : new int[] {0, 7, 16, 23}) {
            Melodeon m = new Melodeon();
            due.same("write", m.write(place / 8, place % 8, 9, 10, 11), -1);
            for (int i = 0; i < 24; i++) {
                boolean written = i == place;
                step(due, m, i / 8, i % 8, written ? 9 : -1, written ? 10 : 0, written ? 11 : 0);
            }
        }
    }

    /** "Throws IndexOutOfBoundsException if there is no such TRACK" */
    static void thereIsNoTrackBeyond(Due due) {
        for (int track : Twins.outside(0, 2)) {
            Twins.noPlace(due, "write(" + track + ", 0, 9, 10, 11)", m -> m.write(track, 0, 9, 10, 11));
            Twins.noPlace(due, "write(" + track + ", 7, -1, 0, 0)", m -> m.write(track, 7, -1, 0, 0));
        }
    }

    /** "Throws IndexOutOfBoundsException if there is no such ... STEP" */
    static void thereIsNoStepBeyond(Due due) {
        for (int step : Twins.outside(0, 7)) {
            Twins.noPlace(due, "write(0, " + step + ", 9, 10, 11)", m -> m.write(0, step, 9, 10, 11));
            Twins.noPlace(due, "write(2, " + step + ", 9, 10, 11)", m -> m.write(2, step, 9, 10, 11));
            Twins.noPlace(due, "write(1, " + step + ", -1, 0, 0)", m -> m.write(1, step, -1, 0, 0));
        }
    }

    /** "if pitch is not -1 to 47": 0 and 47 are PITCHES */
    static void theLeastAndTheGreatestPitch(Due due) {
        Melodeon m = new Melodeon();
        due.same("write the PITCH 0", m.write(1, 3, 0, 10, 11), -1);
        step(due, m, 1, 3, 0, 10, 11);
        due.same("write the PITCH 47", m.write(1, 3, 47, 10, 11), 0);
        step(due, m, 1, 3, 47, 10, 11);
        due.same("write none", m.write(1, 3, -1, 10, 11), 47);
    }

    /** "Throws IllegalArgumentException if pitch is not -1 to 47", be force and GATE as they may */
    static void thereIsNoPitchBeyond(Due due) {
        for (int pitch : Twins.outside(-1, 47)) {
            Twins.noArgument(due, "write(0, 0, " + pitch + ", 10, 11)", m -> m.write(0, 0, pitch, 10, 11));
            Twins.noArgument(due, "write(0, 0, " + pitch + ", 0, 0)", m -> m.write(0, 0, pitch, 0, 0));
        }
    }

    /** "force is not 1 to 127": 1 and 127 are forces */
    static void theLeastAndTheGreatestForce(Due due) {
        Melodeon m = new Melodeon();
        m.write(0, 0, 9, 1, 11);
        step(due, m, 0, 0, 9, 1, 11);
        m.write(0, 0, 9, 127, 11);
        step(due, m, 0, 0, 9, 127, 11);
        m.play(0);
        m.sample();
        due.same("force of the NOTE", m.ofVoice(0, 4), 127);
    }

    /** "Throws IllegalArgumentException if ... force is not 1 to 127" */
    static void noForceIsBeyond(Due due) {
        for (int force : Twins.outside(1, 127)) {
            Twins.noArgument(due, "write(0, 0, 9, " + force + ", 11)", m -> m.write(0, 0, 9, force, 11));
        }
    }

    /** "gate is not 1 to 200": 1 and 200 are GATES */
    static void theLeastAndTheGreatestGate(Due due) {
        Melodeon m = new Melodeon();
        m.write(0, 0, 9, 10, 1);
        step(due, m, 0, 0, 9, 10, 1);
        m.write(0, 0, 9, 10, 200);
        step(due, m, 0, 0, 9, 10, 200);
        m.play(0);
        m.sample();
        due.same("GATE of the NOTE", m.ofVoice(0, 9), 199);
    }

    /** "Throws IllegalArgumentException if ... gate is not 1 to 200" */
    static void noGateIsBeyond(Due due) {
        for (int gate : Twins.outside(1, 200)) {
            Twins.noArgument(due, "write(0, 0, 9, 10, " + gate + ")", m -> m.write(0, 0, 9, 10, gate));
        }
    }

    /** "-1 for none: then it is empty, and force and gate are not looked at" */
    static void forceAndGateOfNoneAreNotLookedAt(Due due) {
        int[] wrong = {Integer.MIN_VALUE, -1, 0, 128, 201, Integer.MAX_VALUE, 5};
        for (int force : wrong) {
            for (int gate : wrong) {
                Melodeon m = new Melodeon();
                m.write(2, 7, 9, 10, 11);
                due.same("write(2, 7, -1, " + force + ", " + gate + ")", m.write(2, 7, -1, force, gate), 9);
                step(due, m, 2, 7, -1, 0, 0);
            }
        }
    }

    /** "If several exceptions apply, the one that is named first is thrown": that of the TRACK, or STEP */
    static void whatThereIsNotIsNamedFirst(Due due) {
        int[][] wrong = {{48, 10, 11}, {-2, 10, 11}, {9, 0, 11}, {9, 128, 11}, {9, 10, 0}, {9, 10, 201},
            {48, 128, 201}};
        for (int[] told : wrong) {
            String rest = told[0] + ", " + told[1] + ", " + told[2] + ")";
            Twins.noPlace(due, "write(3, 0, " + rest, m -> m.write(3, 0, told[0], told[1], told[2]));
            Twins.noPlace(due, "write(0, 8, " + rest, m -> m.write(0, 8, told[0], told[1], told[2]));
            Twins.noPlace(due, "write(-1, -1, " + rest, m -> m.write(-1, -1, told[0], told[1], told[2]));
        }
        Twins.noArgument(due, "write(0, 0, 48, 128, 201)", m -> m.write(0, 0, 48, 128, 201));
    }

    /** "Returns the PITCH before; -1 if it was empty": at first, and where none was written */
    static void itReturnsThePitchBefore(Due due) {
        Melodeon m = new Melodeon();
        due.same("none at first", m.write(0, 4, -1, 1, 1), -1);
        due.same("none still", m.write(0, 4, 0, 1, 1), -1);
        due.same("0", m.write(0, 4, 0, 2, 2), 0);
        due.same("0 again", m.write(0, 4, 12, 1, 1), 0);
        due.same("12", m.write(0, 4, -1, 1, 1), 12);
        due.same("none again", m.write(0, 4, -1, 1, 1), -1);
    }

    /** "8 STEPS, each empty ...": one that is empty again begins no NOTE */
    static void anEmptyStepBeginsNoNote(Due due) {
        Melodeon m = new Melodeon();
        m.write(0, 0, 9, 10, 11);
        m.write(0, 0, -1, 10, 11);
        m.play(0);
        m.sample();
        due.same("sounding()", m.sounding(), 0);
        due.same("GATE", m.ofVoice(0, 9), -1);
    }

    /** "it begins with the next sample: what is written ... till then counts for it" */
    static void itCountsTillTheStepBegins(Due due) {
        Melodeon m = new Melodeon();
        m.setTempo(3, 0);
        m.write(0, 1, 9, 10, 11);
        m.write(1, 1, 9, 10, 11);
        m.play(0);
        m.run(3);
        m.write(0, 1, 21, 22, 23);
        m.write(1, 1, -1, 0, 0);
        m.sample();
        due.same("PITCH", m.ofVoice(0, 3), 21);
        due.same("force", m.ofVoice(0, 4), 22);
        due.same("GATE", m.ofVoice(0, 9), 22);
        due.same("the empty one has none", m.sounding(), 1);
    }

    /** Behind the first sample of a STEP it counts when the STEP begins again: the NOTE that is on stays. */
    static void thenItCountsForTheNextTime(Due due) {
        Melodeon m = new Melodeon();
        m.setTempo(2, 0);
        m.write(0, 0, 9, 10, 50);
        m.play(0);
        m.sample();
        m.write(0, 0, 30, 40, 5);
        m.write(1, 0, 31, 40, 5);
        m.run(15);
        due.same("sounding()", m.sounding(), 1);
        due.same("PITCH of the NOTE", m.ofVoice(0, 3), 9);
        due.same("GATE of the NOTE", m.ofVoice(0, 9), 34);
        m.sample();
        due.same("PITCH of the next one", m.ofVoice(1, 3), 30);
        due.same("PITCH of the other TRACK", m.ofVoice(2, 3), 31);
    }
}
