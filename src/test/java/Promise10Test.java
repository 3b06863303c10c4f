/** Promise 10: setDelay. Its limits at 100000 are in Promise19DelayTest. */
public final class Promise10Test {
    public static void main(String[] args) {
        Tests.of(Promise10Test.class);
    }

    /** A note that gives 0, 1000, 2248 in three samples, and then nothing. */
    private static Melodeon shortNote(int length, int wet, int back) {
        Melodeon m = Sounds.flat(1000);
        m.setDelay(length, wet, back);
        m.begin(0, 0, 127);
        m.run(3);
        m.hush();
        return m;
    }

    /** "LENGTH L (0 for none ...)": with 0 the SAMPLE is m, whatever WET and BACK, and there is no row */
    static void theLeastLength(Due due) {
        Melodeon m = shortNote(0, 256, 256);
        due.same("heard(0)", m.heard(0), 2248);
        due.same("heard(1)", m.heard(1), 1000);
        due.same("nothing comes", m.sample(), 0);
        due.noPlace("inDelay(0)", () -> m.inDelay(0));
        due.same("LENGTH before", m.setDelay(1, 0, 0), 0);
    }

    /** The least row: what comes to its end goes with the next sample */
    static void theLengthOne(Due due) {
        Melodeon m = shortNote(1, 256, 0);
        due.same("2248 and 1000 of the delay", m.heard(0), 3248);
        due.same("inDelay(0)", m.inDelay(0), 2248);
        due.same("2248 of the delay", m.sample(), 2248);
        due.same("nothing behind that", m.sample(), 0);
        due.noPlace("inDelay(1)", () -> m.inDelay(1));
        due.same("LENGTH before", m.setDelay(0, 0, 0), 1);
    }

    /** "if length is not 0 to 200": with 200 it comes 200 samples later */
    static void theGreatestLength(Due due) {
        Melodeon m = shortNote(200, 256, 0);
        due.same("inDelay(199)", m.inDelay(199), 2248);
        due.same("inDelay(198)", m.inDelay(198), 1000);
        due.same("nothing for 198 samples", m.run(198), 0);
        due.same("peak() is that of the note", m.peak(), 2248);
        due.same("then 1000", m.sample(), 1000);
        due.same("then 2248", m.sample(), 2248);
        due.same("then nothing", m.sample(), 0);
        due.noPlace("inDelay(200)", () -> m.inDelay(200));
        due.same("LENGTH before", m.setDelay(0, 0, 0), 200);
    }

    /** "Throws IllegalArgumentException if length is not 0 to 200" */
    static void noLengthIsBeyond(Due due) {
        for (int length : Twins.outside(0, 200)) {
            Twins.noArgument(due, "setDelay(" + length + ", 10, 11)", m -> m.setDelay(length, 10, 11));
        }
    }

    /** "wet ... is not 0 to 256": with 0 nothing of the row is heard, but it goes on in it */
    static void theLeastWet(Due due) {
        Melodeon m = shortNote(1, 0, 256);
        due.same("2248 alone", m.heard(0), 2248);
        due.same("inDelay(0)", m.inDelay(0), 3248);
        due.same("nothing is heard", m.sample(), 0);
        due.same("inDelay(0)", m.inDelay(0), 3248);
    }

    /** "wet ... is not 0 to 256": with 256 all of it is heard, with 255 it is cut */
    static void theGreatestWet(Due due) {
        due.same("2248 of 2248", shortNote(1, 256, 0).sample(), 2248);
        due.same("2248 * 255 / 256 = 2239.2", shortNote(1, 255, 0).sample(), 2239);
        due.same("2248 / 256 = 8.8", shortNote(1, 1, 0).sample(), 8);
    }

    /** "Throws IllegalArgumentException if ... wet ... is not 0 to 256" */
    static void noWetIsBeyond(Due due) {
        for (int wet : Twins.outside(0, 256)) {
            Twins.noArgument(due, "setDelay(9, " + wet + ", 11)", m -> m.setDelay(9, wet, 11));
            Twins.noArgument(due, "setDelay(0, " + wet + ", 11)", m -> m.setDelay(0, wet, 11));
        }
    }

    /** "back is not 0 to 256": with 0 nothing comes a second time */
    static void theLeastBack(Due due) {
        Melodeon m = shortNote(2, 256, 0);
        due.same("1000", m.sample(), 1000);
        due.same("2248", m.sample(), 2248);
        due.same("nothing", m.run(2), 0);
        due.same("inDelay(0)", m.inDelay(0), 0);
        due.same("inDelay(1)", m.inDelay(1), 0);
    }

    /** "back is not 0 to 256": with 256 it comes for ever, with 255 it fades */
    static void theGreatestBack(Due due) {
        Melodeon m = shortNote(2, 256, 256);
        due.same("1000 a hundred times later", m.run(199), 1000);
        due.same("2248 a hundred times later", m.sample(), 2248);
        Melodeon less = shortNote(2, 256, 255);
        less.run(2);
        due.same("1000 * 255 / 256 = 996.1", less.sample(), 996);
        due.same("2248 * 255 / 256 = 2239.2", less.sample(), 2239);
    }

    /** "Throws IllegalArgumentException if ... back is not 0 to 256" */
    static void noBackIsBeyond(Due due) {
        for (int back : Twins.outside(0, 256)) {
            Twins.noArgument(due, "setDelay(9, 10, " + back + ")", m -> m.setDelay(9, 10, back));
            Twins.noArgument(due, "setDelay(0, 10, " + back + ")", m -> m.setDelay(0, 10, back));
        }
    }

    /** Several wrong ones at once have the same exception. */
    static void allOfThemAreWrong(Due due) {
        Twins.noArgument(due, "setDelay(201, 257, 257)", m -> m.setDelay(201, 257, 257));
        Twins.noArgument(due, "setDelay(-1, -1, -1)", m -> m.setDelay(-1, -1, -1));
    }

    /** "its row is 0 then": also if the LENGTH is told as it was */
    static void theRowIsZeroThough(Due due) {
        Melodeon m = shortNote(3, 256, 256);
        due.same("inDelay(2)", m.inDelay(2), 2248);
        due.same("LENGTH before", m.setDelay(3, 256, 256), 3);
        for (int place = 0; place < 3; place++) {
            due.same("inDelay(" + place + ")", m.inDelay(place), 0);
        }
        due.same("nothing comes", m.run(7), 0);
    }

    /** "its row is 0 then": what was in a longer row does not come, nor what was there ahead of a LENGTH of 0 */
    static void aLongerRowBehindAShorterOneIsZero(Due due) {
        for (int shorter = 0; shorter < 3; shorter++) {
            Melodeon m = shortNote(5, 256, 256);
            m.setDelay(shorter, 256, 256);
            m.setDelay(5, 256, 256);
            for (int place = 0; place < 5; place++) {
                due.same("inDelay(" + place + ")", m.inDelay(place), 0);
            }
            due.same("nothing comes", m.run(11), 0);
        }
    }

    /** The first number that comes to a new row is at its end, and goes LENGTH samples later, from 1 to 200. */
    static void theFirstNumberOfANewRow(Due due) {
        for (int length : new int[] {1, 2, 3, 199, 200}) {
            Melodeon m = Sounds.flat(1000);
            m.setDelay(4, 256, 0);
            m.begin(0, 0, 127);
            m.run(3);
            m.setDelay(length, 256, 0);
            due.same("the fourth sample of the note", m.sample(), 3312);
            due.same("at the end", m.inDelay(length - 1), 3312);
            if (length > 1) {
                due.same("at the first place", m.inDelay(0), 0);
                due.same("ahead of the end", m.inDelay(length - 2), 0);
            }
            m.hush();
            if (length > 1) {
                due.same("nothing for " + (length - 1), m.run(length - 1), 0);
            }
            due.same("3312 again", m.sample(), 3312);
            due.same("nothing behind that", m.sample(), 0);
        }
    }

    /** The row begins anew where its LENGTH gets shorter in the midst of it. */
    static void aShorterRowHasItsOwnEnd(Due due) {
        Melodeon m = Sounds.flat(1000);
        m.setDelay(5, 0, 0);
        m.run(4);
        m.setDelay(2, 256, 0);
        m.begin(0, 0, 127);
        m.run(3);
        due.same("inDelay(0)", m.inDelay(0), 1000);
        due.same("inDelay(1)", m.inDelay(1), 2248);
        due.noPlace("inDelay(2)", () -> m.inDelay(2));
        due.same("3312 and 1000 of the delay", m.sample(), 4312);
    }
}
