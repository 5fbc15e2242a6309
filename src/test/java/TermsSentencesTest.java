import java.io.IOException;

/** A test of its own for each sentence of the document's terms, at the bounds that it names. */
public final class TermsSentencesTest {
    private TermsSentencesTest() {
    }

    public static void main(String[] args) throws IOException {
        Sentences terms = Sentences.ofTerms("TermsSentencesTest");
        whole(terms);
        network(terms);
        readings(terms);
        windows(terms);
        challenges(terms);
        settling(terms);
        cuts(terms);
        endsAndTexts(terms);
        terms.close();
    }

    private static void whole(Sentences terms) {
        terms.test("An object is used for at most 512 calls after it has been made; what later calls answer is free.",
            NetworkTerms::the512thCall);
        terms.test("A sensor that lies pays those who bought; each buyer pays for what stood, and bonds cover all "
            + "cuts.", NetworkTerms::bondsCoverAllCuts);
        terms.test("A call that throws an exception changes nothing; if several exceptions apply, the one that its "
            + "@throws lines name first is thrown.", NetworkTerms::firstNamedException);
    }

    private static void network(Sentences terms) {
        terms.test("Ticks are numbered from 0.", NetworkTerms::ticksFrom0);
        terms.test("The sensors 0 to 11 stand in 3 rows of 4: the sensor 4 * r + c is in the row r and the column c; "
            + "sensors side by side, or one above the other, are neighbours.", NetworkTerms::neighbours);
        terms.test("There are the buyers 0 to 5, each with a purse of 200 at first, and the house, with 0.",
            NetworkTerms::buyersAtFirst);
        terms.test("A sensor has a bond, 100 at first, a purse, 0 at first, and a price, 1 at first.",
            NetworkTerms::sensorsAtFirst);
        terms.test("Repeaters are 0 to 5; 0 is the hub.", NetworkTerms::repeaters);
        terms.test("Each other repeater hangs on one with a lower number, at first on the hub; the sensor s hangs on "
            + "the repeater s modulo 6 at first.", NetworkTerms::hangingAtFirst);
        terms.test("A repeater can be lossy: with n from 2 to 9 it loses the n-th, the 2 * n-th and so on of all parts "
            + "that have come to it since that was set; with 0 it loses none, as at first.",
            NetworkTerms::lossyRepeaters);
    }

    private static void readings(Sentences terms) {
        terms.test("Readings are numbered from 0; there can be 80.", NetworkTerms::numbersOfReadings);
        terms.test("A sensor tells a value, 0 to 99, at most once a tick.", NetworkTerms::onceATick);
        terms.test("It goes out in 4 parts, one behind the other, each by the repeater of the sensor, that on which "
            + "this hangs, and so on to the hub, unless one of these loses it (also the hub can).",
            NetworkTerms::waysOfParts);
        terms.test("With 3 parts or more that are behind the hub, the reading is FRESH, otherwise LOST.",
            NetworkTerms::threeParts);
        terms.test("A sensor whose bond is less than 20 is muted, and tells nothing.", NetworkTerms::muted);
    }

    private static void windows(Sentences terms) {
        terms.test("A buyer opens a window on a sensor for some ticks, this one the first; the price of the sensor, "
            + "times the ticks, is set aside from the purse of the buyer.", MarketTerms::openings);
        terms.test("Each FRESH reading of the sensor that comes in these ticks, behind the opening, is used by the "
            + "buyer: the price (as it was when the window was opened) is held for the reading, of what is set aside.",
            MarketTerms::uses);
        terms.test("When the last of the ticks ends, what is left of that goes back to the buyer.",
            MarketTerms::closings);
        terms.test("A buyer can have a window on a sensor only if it has none on it.", MarketTerms::oneWindow);
    }

    private static void challenges(Sentences terms) {
        terms.test("A buyer can challenge a FRESH reading, for a stake of 4 from its purse; the reading is CHALLENGED.",
            MarketTerms::stakes);
        terms.test("Neighbours of its sensor can give one sample each, 0 to 99.", MarketTerms::samples);
        terms.test("It is judged as soon as all neighbours have given one, otherwise when the fifth tick ends, that of "
            + "the challenge counted as the first.", MarketTerms::judgedInTime);
        terms.test("The middle of the samples is the lower one of the two middle ones if they are an even number.",
            MarketTerms::middles);
        terms.test("The reading is a LIE if there are samples, and its value differs by more than 5 from the middle; "
            + "otherwise it has STOOD, and the stake goes to the purse of the sensor.", MarketTerms::differences);
    }

    private static void settling(Sentences terms) {
        terms.test("A FRESH reading has STOOD when the fifth tick ends, that of the reading counted as the first.",
            MarketTerms::standsInTime);
        terms.test("When a reading has STOOD, all that is held for it goes to the purse of the sensor.",
            MarketTerms::heldForTheSensor);
        terms.test("When a reading is a LIE, all that is held for it goes back to the purses of those who used it, and "
            + "the stake to that of the challenger.", MarketTerms::heldGoesBack);
    }

    private static void cuts(Sentences terms) {
        terms.test("The cut is 4 times the price that the sensor has then, times (how many used the reading, and 1), "
            + "but at most its bond, which becomes less by it.", MarketTerms::cutsAndBonds);
        terms.test("Of the cut each of those who used it gets half the cut, divided by how many they are, the "
            + "challenger a fourth of it, both rounded down; what is left goes to the house.", MarketTerms::shares);
        terms.test("(If nobody used it, the half is left.)", MarketTerms::nobodyUsedIt);
    }

    private static void endsAndTexts(Sentences terms) {
        terms.test("A tick ends like this: by rising numbers, readings that are CHALLENGED or FRESH are judged, or "
            + "have STOOD, if it is time; then windows whose last tick it was are closed.", MarketTerms::endOfATick);
        terms.test("The text of a reading is a letter from \"a\" to \"l\" for its sensor, its value without leading "
            + "zeros, and \".\" if it is FRESH, \"?\" if it is CHALLENGED, \"+\" if it has STOOD, \"-\" for a LIE, "
            + "\"x\" if it is LOST.", NetworkTerms::texts);
        terms.test("The constants: `NONE = -1`: None.", NetworkTerms::none);
        terms.test("`FRESH = 0, CHALLENGED = 1, STOOD = 2, LIE = 3, LOST = 4`: States of readings.",
            NetworkTerms::states);
    }
}
