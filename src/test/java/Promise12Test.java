/** Promise 12: end. */
public final class Promise12Test {
    public static void main(String[] args) {
        Tests.of(Promise12Test.class);
    }

    /** "if there is no such VOICE": 0 and 3 are, and each is ended alone */
    static void theFirstAndTheLastVoice(Due due) {
        for (int voice = 0; voice < 4; voice++) {
            Melodeon m = new Melodeon();
            for (int i = 0; i < 4; i++) {
                m.begin(0, 5, 6);
            }
            due.same("end(" + voice + ")", m.end(voice), 1);
            for (int i = 0; i < 4; i++) {
                due.same("state of " + i, m.ofVoice(i, 0), i == voice ? 4 : 1);
            }
        }
    }

    /** "Throws IndexOutOfBoundsException if there is no such VOICE" */
    static void thereIsNoVoiceBeyond(Due due) {
        for (int voice : Twins.outside(0, 3)) {
            Twins.noPlace(due, "end(" + voice + ")", m -> m.end(voice));
        }
    }

    /** "if the VOICE is in ATTACK, DECAY or SUSTAIN": a FREE one stays FREE */
    static void aFreeOneStaysFree(Due due) {
        Melodeon m = new Melodeon();
        due.same("end(0)", m.end(0), 0);
        due.same("state", m.ofVoice(0, 0), 0);
        due.same("sounding()", m.sounding(), 0);
        m.begin(0, 0, 1);
        due.same("the NOTE behind it is not ended", m.ofVoice(0, 0), 1);
    }

    /** "if the VOICE is in ATTACK, DECAY or SUSTAIN": one in RELEASE stays there, at its LEVEL */
    static void aReleasedOneStaysReleased(Due due) {
        Melodeon m = new Melodeon();
        m.begin(0, 0, 100);
        m.run(12);
        due.same("end(0)", m.end(0), 3);
        m.run(3);
        due.same("end(0) again", m.end(0), 4);
        due.same("state", m.ofVoice(0, 0), 4);
        due.same("LEVEL", m.ofVoice(0, 1), 700000);
        m.sample();
        due.same("LEVEL then", m.ofVoice(0, 1), 600000);
    }

    /** "if the VOICE is in ATTACK, DECAY or SUSTAIN, it is in RELEASE"; "Returns its state ahead of that" */
    static void eachOtherStateEnds(Due due) {
        int[] samples = {0, 1, 9, 10, 19, 20, 40};
        int[] states = {1, 1, 1, 2, 2, 3, 3};
        for (int i = 0; i < samples.length; i++) {
            Melodeon m = new Melodeon();
            m.setEnvelope(0, 10, 10, 500, 10);
            m.begin(0, 0, 100);
            if (samples[i] > 0) {
                m.run(samples[i]);
            }
            int level = m.ofVoice(0, 1);
            due.same("end(0) behind " + samples[i], m.end(0), states[i]);
            due.same("state", m.ofVoice(0, 0), 4);
            due.same("LEVEL", m.ofVoice(0, 1), level);
            due.same("it sounds", m.sounding(), 1);
        }
    }

    /** "if it is 0 or less then": ended ahead of its first sample, at the LEVEL 0, it is FREE behind that */
    static void endedAtOnceItIsFreeWithTheNextSample(Due due) {
        Melodeon m = new Melodeon();
        m.setEnvelope(0, 10, 10, 1000, 400);
        m.begin(0, 0, 100);
        due.same("end(0)", m.end(0), 1);
        due.same("it sounds till then", m.sounding(), 1);
        m.sample();
        due.same("state", m.ofVoice(0, 0), 0);
        due.same("LEVEL", m.ofVoice(0, 1), 0);
        due.same("PHASE", m.ofVoice(0, 5), 0);
    }

    /** "GATES go on, also ... of a NOTE that has ENDED" */
    static void itsGateGoesOn(Due due) {
        Melodeon m = new Melodeon();
        m.setEnvelope(0, 1, 1, 1000, 400);
        m.write(0, 0, 5, 66, 4);
        m.play(0);
        m.sample();
        m.stop();
        due.same("end(0)", m.end(0), 2);
        due.same("GATE", m.ofVoice(0, 9), 3);
        m.run(3);
        due.same("GATE", m.ofVoice(0, 9), 0);
        m.sample();
        due.same("GATE", m.ofVoice(0, 9), -1);
        due.same("LEVEL, four steps of RELEASE", m.ofVoice(0, 1), 1000000 - 4 * 2500);
    }
}
