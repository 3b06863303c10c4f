/** Promise 34: inDelay. */
public final class Promise34Test {
    public static void main(String[] args) {
        Tests.of(Promise34Test.class);
    }

    /** "if there is no such place": without a DELAY there is none at all */
    static void withoutADelay(Due due) {
        Melodeon m = new Melodeon();
        for (int place : new int[] {Integer.MIN_VALUE, -1, 0, 1, 199, Integer.MAX_VALUE}) {
            due.noPlace("inDelay(" + place + ")", () -> m.inDelay(place));
        }
        m.setDelay(5, 0, 0);
        m.setDelay(0, 0, 0);
        due.noPlace("inDelay(0) behind a LENGTH of 0", () -> m.inDelay(0));
    }

    /** "a place in the row of the DELAY, from 0": up to LENGTH - 1 */
    static void theFirstAndTheLastPlace(Due due) {
        for (int length : new int[] {1, 2, 5, 199, 200}) {
            Melodeon m = new Melodeon();
            m.setDelay(length, 0, 0);
            due.same("inDelay(0) of " + length, m.inDelay(0), 0);
            due.same("inDelay of the last of " + length, m.inDelay(length - 1), 0);
            due.noPlace("inDelay of one more than " + length, () -> m.inDelay(length));
            due.noPlace("inDelay(-1) of " + length, () -> m.inDelay(-1));
        }
    }

    /** "Throws IndexOutOfBoundsException if there is no such place": the row has 5 in the midst of its going round */
    static void thereIsNoPlaceBeyond(Due due) {
        for (int place : Twins.outside(0, 4)) {
            Twins.noPlace(due, "inDelay(" + place + ")", m -> m.inDelay(place));
        }
        Twins.noPlace(due, "inDelay(199)", m -> m.inDelay(199));
        Twins.noPlace(due, "inDelay(200)", m -> m.inDelay(200));
    }

    /** "Returns the number there": from the first of the row, which goes next, to its end, however far it is round */
    static void fromTheFirstToTheEnd(Due due) {
        Melodeon m = Sounds.flat(1000);
        m.setDelay(3, 0, 0);
        m.begin(0, 0, 127);
        int[] all = new int[13];
        for (int i = 3; i < 13; i++) {
            all[i] = m.sample();
            for (int place = 0; place < 3; place++) {
                due.same("inDelay(" + place + ") at the clock " + m.clock(), m.inDelay(place), all[i - 2 + place]);
            }
        }
        due.yes("they are not the same", all[12] != all[11] && all[11] != all[10]);
    }

    /** "its row is 0 then": all places, also of the greatest */
    static void allAreZeroAsItIsTold(Due due) {
        Melodeon m = Sounds.flat(1000);
        m.setDelay(200, 0, 0);
        m.begin(0, 0, 127);
        m.run(200);
        m.run(77);
        m.setDelay(200, 0, 0);
        for (int place = 0; place < 200; place++) {
            due.same("inDelay(" + place + ")", m.inDelay(place), 0);
        }
    }

    /** What would come goes through no row but its own. */
    static void notWhatWouldCome(Due due) {
        Melodeon m = Sounds.flat(1000);
        m.setDelay(2, 0, 0);
        m.begin(0, 0, 127);
        m.wouldPeak(3);
        m.silentIn(3);
        due.same("inDelay(0)", m.inDelay(0), 0);
        due.same("inDelay(1)", m.inDelay(1), 0);
        m.run(2);
        due.same("inDelay(1)", m.inDelay(1), 1000);
    }

    /** It only tells: nothing is changed. */
    static void nothingIsChanged(Due due) {
        Twins.unchanged(due, "inDelay(4)", m -> m.inDelay(4));
    }
}
