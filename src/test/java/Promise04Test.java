/** Promise 4: stride. */
public final class Promise04Test {
    public static void main(String[] args) {
        Tests.of(Promise04Test.class);
    }

    /** "if pitch is not 0 to 47": 0 and 47 are PITCHES */
    static void theLeastAndTheGreatestPitch(Due due) {
        Melodeon m = new Melodeon();
        due.same("stride(0)", m.stride(0), 256);
        due.same("stride(47)", m.stride(47), 3864);
    }

    /** "Throws IllegalArgumentException if pitch is not 0 to 47" */
    static void thereIsNoPitchBeyond(Due due) {
        for (int pitch : Twins.outside(0, 47)) {
            Twins.noArgument(due, "stride(" + pitch + ")", m -> m.stride(pitch));
        }
    }

    /** "by PITCH % 12, times 2 as often as PITCH / 12 tells": each twelve PITCHES begin with 256 again, doubled */
    static void theEdgesOfTheOctaves(Due due) {
        Melodeon m = new Melodeon();
        due.same("stride(11)", m.stride(11), 483);
        due.same("stride(12)", m.stride(12), 512);
        due.same("stride(23)", m.stride(23), 966);
        due.same("stride(24)", m.stride(24), 1024);
        due.same("stride(35)", m.stride(35), 1932);
        due.same("stride(36)", m.stride(36), 2048);
    }

    /** "one of 256, 271, 287, 304, 323, 342, 362, 384, 406, 431, 456, 483" */
    static void eachPitchOfAnOctave(Due due) {
        Melodeon m = new Melodeon();
        int[] strides = {256, 271, 287, 304, 323, 342, 362, 384, 406, 431, 456, 483};
        for (int pitch = 0; pitch < 12; pitch++) {
            due.same("stride(" + pitch + ")", m.stride(pitch), strides[pitch]);
            due.same("stride(" + (36 + pitch) + ")", m.stride(36 + pitch), 8 * strides[pitch]);
        }
    }

    /** It only tells: nothing is changed. */
    static void nothingIsChanged(Due due) {
        Twins.unchanged(due, "stride(47)", m -> m.stride(47));
    }
}
