/** Promise 2: draw. */
public final class Promise02Test {
    public static void main(String[] args) {
        Tests.of(Promise02Test.class);
    }

    /** "if place is not 0 to 31": 0 and 31 are places */
    static void theFirstAndTheLastPlaceAreDrawn(Due due) {
        Melodeon m = new Melodeon();
        due.same("draw(0, 7)", m.draw(0, 7), 0);
        due.same("draw(31, 9)", m.draw(31, 9), 0);
        due.same("the VALUE 0", m.wave(3, 0), 7);
        due.same("the VALUE 31", m.wave(3, 31 * 2048), 9);
        for (int k = 1; k < 31; k++) {
            due.same("the VALUE " + k, m.wave(3, k * 2048), 0);
        }
    }

    /** "Throws IndexOutOfBoundsException if place is not 0 to 31" */
    static void thereIsNoPlaceBeyond(Due due) {
        for (int place : Twins.outside(0, 31)) {
            Twins.noPlace(due, "draw(" + place + ", 5)", m -> m.draw(place, 5));
        }
    }

    /** "if value is not -1000 to 1000": -1000 and 1000 are values */
    static void theLeastAndTheGreatestValueAreDrawn(Due due) {
        for (int place = 0; place < 32; place++) {
            Melodeon m = new Melodeon();
            due.same("draw the greatest", m.draw(place, 1000), 0);
            due.same("the greatest", m.wave(3, place * 2048), 1000);
            due.same("draw the least", m.draw(place, -1000), 1000);
            due.same("the least", m.wave(3, place * 2048), -1000);
        }
    }

    /** "Throws IllegalArgumentException if value is not -1000 to 1000" */
    static void noValueIsBeyond(Due due) {
        for (int value : Twins.outside(-1000, 1000)) {
            Twins.noArgument(due, "draw(0, " + value + ")", m -> m.draw(0, value));
            Twins.noArgument(due, "draw(31, " + value + ")", m -> m.draw(31, value));
        }
    }

    /** "If several exceptions apply, the one that is named first is thrown": that of the place */
    static void thePlaceIsNamedFirst(Due due) {
        Twins.noPlace(due, "draw(-1, 1001)", m -> m.draw(-1, 1001));
        Twins.noPlace(due, "draw(32, -1001)", m -> m.draw(32, -1001));
    }

    /** "Returns the one before": 0 at first, then what was drawn last, also the same once more */
    static void itReturnsTheOneBefore(Due due) {
        for (int place = 0; place < 32; place++) {
            Melodeon m = new Melodeon();
            due.same("draw at first", m.draw(place, -3), 0);
            due.same("draw then", m.draw(place, 5), -3);
            due.same("draw the same", m.draw(place, 5), 5);
            due.same("draw behind that", m.draw(place, 0), 5);
        }
    }

    /** "a VALUE of the DRAWN WAVE": no other WAVE has it, not even next to its ends */
    static void theOtherWavesStay(Due due) {
        Melodeon drawn = new Melodeon();
        Melodeon other = new Melodeon();
        for (int k = 0; k < 32; k++) {
            drawn.draw(k, 123);
        }
        for (int k = 0; k < 32; k++) {
            for (int wave = 0; wave < 3; wave++) {
                due.same("wave " + wave + " at " + k, drawn.wave(wave, k * 2048), other.wave(wave, k * 2048));
            }
        }
    }

    /** "the VALUE from now on": also of a note that is on, with the next sample */
    static void itCountsFromTheNextSampleOn(Due due) {
        Melodeon m = Sounds.flat(1000);
        m.begin(0, 0, 127);
        m.sample();
        due.same("BAND behind 1000", m.ofVoice(0, 8), 500);
        Sounds.drawFlat(m, -1000);
        due.same("BAND as it was", m.ofVoice(0, 8), 500);
        m.sample();
        due.same("BAND behind -1000 - 250 - 500", m.ofVoice(0, 8), 500 - 875);
    }
}
