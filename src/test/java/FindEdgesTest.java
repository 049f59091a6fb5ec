/** The boundary cases of promises 7 to 9, each sentence of the document by a test of its own. */
final class FindEdgesTest {
    private static final int LOW = Integer.MIN_VALUE;
    private static final int GREAT = Integer.MAX_VALUE;

    private FindEdgesTest() {
    }

    public static void main(String[] args) {
        wrongLeast();
        wrongMost();
        wrongLimits();
        severalFaults();
        endsThatAreAllowed();
        fromLeastToMost();
        asManyAsTheLimit();
        nothingToFind();
        threeHundred(false);
        threeHundred(true);
        threeHundredOfOneKind();
        oneMoreThanThreeHundred();
        oneMoreOfAnotherKind();
        manyMore();
        againAfterTooMany();
        stoodIsNothing();
        stoodCountsWhatDoesNotLead();
        stoodOfTheLastFind();
        noPlaceK();
        lastPlaceK();
        anotherWhat();
        Check.end();
    }

    private static PlaceFinder withOneFound() {
        PlaceFinder f = new PlaceFinder();
        f.draw(9, 8, Check.packed(1, 1, 1));
        Check.equal("found", f.find(1, 16, 0), 1);
        return f;
    }

    private static void refused(int least, int most, int limit) {
        PlaceFinder f = withOneFound();
        String what = "find(" + least + ", " + most + ", " + limit + ")";
        Check.illegal(what, () -> f.find(least, most, limit));
        Check.equal(what + ": stood", f.stood(), 1);
        Check.placeIs(what, f, 0, 9, 8, 1, 1, 1, 0);
    }

    /** Promise 7: "least is not 1 .. 16". */
    private static void wrongLeast() {
        int[] wrong = {0, -1, -16, 17, 18, 33, LOW, LOW + 1, GREAT, 65_537};
        for (int least : wrong) {
            refused(least, 16, 0);
            refused(least, least, 0);
            refused(least, 1, 500);
        }
    }

    /** Promise 7: "most not least .. 16". */
    private static void wrongMost() {
        for (int least = 1; least <= 16; least++) {
            refused(least, least - 1, 0);
            refused(least, 17, 0);
        }
        int[] wrong = {0, -1, -16, 18, 33, LOW, LOW + 1, GREAT, 65_537};
        for (int most : wrong) {
            refused(1, most, 0);
            refused(16, most, 500);
        }
        refused(16, 1, 0);
    }

    /** Promise 7: "limit not 0 .. 500". */
    private static void wrongLimits() {
        int[] wrong = {-1, -2, -500, 501, 502, 1000, 65_536, LOW, LOW + 1, GREAT};
        for (int limit : wrong) {
            refused(1, 16, limit);
            refused(16, 16, limit);
        }
    }

    /** The same, all at once. */
    private static void severalFaults() {
        refused(0, -1, -1);
        refused(17, 16, 501);
        refused(LOW, LOW, LOW);
        refused(GREAT, GREAT, GREAT);
        refused(5, 4, 501);
    }

    /** Promise 7: least and most 1 .. 16, and limit 0 .. 500, at their ends. */
    private static void endsThatAreAllowed() {
        int[][] calls = {{1, 1, 0}, {1, 16, 0}, {16, 16, 0}, {16, 16, 500}, {3, 16, 500}, {3, 3, 500}};
        for (int[] c : calls) {
            PlaceFinder f = withOneFound();
            Check.equal("find(" + c[0] + ", " + c[1] + ", " + c[2] + ")", f.find(c[0], c[1], c[2]), c[0] == 1 ? 1 : 0);
        }
        Check.equal("find(1, 1, 500)", withOneFound().find(1, 1, 500), PlaceFinder.NONE);
        Check.equal("find(1, 16, 500)", withOneFound().find(1, 16, 500), PlaceFinder.NONE);
    }

    /** Promise 7: "a module size from least to most", both of them among these. */
    private static void fromLeastToMost() {
        for (int m = 1; m <= 16; m++) {
            PlaceFinder f = new PlaceFinder();
            f.sheet(400, 400);
            f.draw(7, 6, Check.packed(m, 1, m % 4));
            Check.equal("m alone is " + m, f.find(m, m, 0), 1);
            Check.placeIs("m alone", f, 0, 7, 6, m, 1, m % 4, 0);
            Check.equal("most is m " + m, f.find(1, m, 0), 1);
            Check.equal("least is m " + m, f.find(m, 16, 0), 1);
            Check.equal("most is below m " + m, m == 1 ? 0 : f.find(1, m - 1, 0), 0);
            Check.equal("least is above m " + m, m == 16 ? 0 : f.find(m + 1, 16, 0), 0);
        }
    }

    /** Promise 7: "can stand with a limit": as many wrong dots as the limit, and one more. */
    private static void asManyAsTheLimit() {
        PlaceFinder f = new PlaceFinder();
        f.sheet(21, 21);
        Check.equal("light, one more than the limit", f.find(1, 1, 105), 0);
        Check.nothingFound("light, one more than the limit", f);
        Check.equal("light, as many as the limit", f.find(1, 1, 106), 1);
        Check.equal("light, as many as the limit: stood", f.stood(), 4);
        Check.placeIs("light, as many as the limit", f, 0, 0, 0, 1, 1, 0, 106);
        f.fill(0, 0, 21, 21, true);
        Check.equal("dark, one more than the limit", f.find(1, 1, 96), 0);
        Check.nothingFound("dark, one more than the limit", f);
        Check.equal("dark, as many as the limit", f.find(1, 1, 97), 1);
        Check.placeIs("dark, as many as the limit", f, 0, 0, 0, 1, 1, 0, 97);
        f.sheet(21, 21);
        f.draw(0, 0, Check.packed(1, 1, 2));
        Check.equal("none wrong", f.find(1, 1, 0), 1);
        f.turn(20, 20, 1);
        Check.equal("one wrong, none allowed", f.find(1, 1, 0), 0);
        Check.nothingFound("one wrong, none allowed", f);
        Check.equal("one wrong, one allowed", f.find(1, 1, 1), 1);
    }

    /** Promise 7: none of all is found, on sheets too small for any, and on empty and full ones. */
    private static void nothingToFind() {
        int[][] sheets = {{1, 1}, {20, 512}, {512, 20}, {21, 21}, {64, 64}, {512, 512}};
        for (int[] s : sheets) {
            PlaceFinder f = new PlaceFinder();
            f.sheet(s[0], s[1]);
            Check.equal("empty " + s[0] + " times " + s[1], f.find(1, 16, 0), 0);
            Check.nothingFound("empty", f);
            f.fill(0, 0, 512, 512, true);
            Check.equal("full " + s[0] + " times " + s[1], f.find(1, 16, 0), 0);
            Check.nothingFound("full", f);
        }
    }

    /** 20 a row, of every quarter, touching or not; the one beyond the 300th has modules of 2 dots. */
    private static PlaceFinder drawn(int count, boolean close) {
        PlaceFinder f = new PlaceFinder();
        f.sheet(512, 512);
        int step = close ? 21 : 22;
        for (int k = 0; k < Math.min(count, 300); k++) {
            f.draw(k % 20 * step, k / 20 * step, Check.packed(1, 1, k % 4));
        }
        if (count > 300) {
            f.draw(470, 470, Check.packed(2, 1, 3));
        }
        return f;
    }

    /** Promise 7: 300 at which a symbol can stand are not "more than 300": all of them are found. */
    private static void threeHundred(boolean close) {
        String what = close ? "300 that touch" : "300 apart";
        PlaceFinder f = drawn(300, close);
        int step = close ? 21 : 22;
        Check.equal(what + ": find", f.find(1, 16, 0), 300);
        Check.equal(what + ": stood", f.stood(), 300);
        for (int k = 0; k < 300; k += 23) {
            Check.placeIs(what, f, k, k % 20 * step, k / 20 * step, 1, 1, k % 4, 0);
        }
        Check.placeIs(what, f, 299, 19 * step, 14 * step, 1, 1, 3, 0);
        Check.equal(what + ": modules of the last", f.modules(299, 0, 0), 0b1111111_0000000_1111111);
        Check.equal(what + ": place(300, 0)", f.place(300, 0), PlaceFinder.NONE);
        Check.outOfBounds(what + ": modules(300, 0, 0)", () -> f.modules(300, 0, 0));
    }

    /** The same, where but one of them leads. */
    private static void threeHundredOfOneKind() {
        PlaceFinder f = new PlaceFinder();
        int[][] sheets = {{21 + 74, 21}, {21, 21 + 74}, {21 + 24, 21 + 2}, {21 + 4, 21 + 14}};
        for (int[] s : sheets) {
            String what = "300 on " + s[0] + " times " + s[1];
            f.sheet(s[0], s[1]);
            Check.equal(what + ": find", f.find(1, 1, 106), 1);
            Check.equal(what + ": stood", f.stood(), 300);
            Check.placeIs(what, f, 0, 0, 0, 1, 1, 0, 106);
        }
    }

    /** Promise 7: "NONE, and nothing is found, when there are more than 300": one more. */
    private static void oneMoreThanThreeHundred() {
        PlaceFinder f = new PlaceFinder();
        f.sheet(21 + 75, 21);
        Check.equal("304: find", f.find(1, 1, 106), PlaceFinder.NONE);
        Check.nothingFound("304", f);
        // light in the last place of each quarter but 3
        f.turn(95, 7, 1);
        Check.equal("301: find", f.find(1, 1, 106), PlaceFinder.NONE);
        Check.nothingFound("301", f);
        // light in the last place of each quarter but 0
        f.turn(95, 13, 1);
        Check.equal("300 of 304: find", f.find(1, 1, 106), 1);
        Check.equal("300 of 304: stood", f.stood(), 300);
        f.sheet(21, 21 + 75);
        Check.equal("304 in a column: find", f.find(1, 1, 106), PlaceFinder.NONE);
        Check.nothingFound("304 in a column", f);
    }

    /** The same, where the one more has another module size than the 300. */
    private static void oneMoreOfAnotherKind() {
        PlaceFinder f = drawn(301, false);
        Check.equal("301 drawn: find", f.find(1, 16, 0), PlaceFinder.NONE);
        Check.nothingFound("301 drawn", f);
        Check.equal("300 of m 1: find", f.find(1, 1, 0), 300);
        Check.equal("one of m 2: find", f.find(2, 16, 0), 1);
        Check.equal("301 drawn: find(1, 2, 0)", f.find(1, 2, 0), PlaceFinder.NONE);
        f.turn(470, 470, 1);
        Check.equal("301 drawn, one wrong: find", f.find(1, 16, 0), 300);
        Check.equal("301 drawn, one wrong and allowed: find", f.find(1, 16, 1), PlaceFinder.NONE);
    }

    /** The same, where it can stand nearly everywhere. */
    private static void manyMore() {
        PlaceFinder f = new PlaceFinder();
        f.sheet(512, 512);
        f.draw(5, 6, Check.packed(1, 1, 0));
        Check.equal("one", f.find(1, 1, 0), 1);
        Check.equal("many more: find", f.find(1, 16, 500), PlaceFinder.NONE);
        Check.nothingFound("many more", f);
        f.fill(0, 0, 512, 512, true);
        Check.equal("many more on dark: find", f.find(1, 16, 500), PlaceFinder.NONE);
        Check.nothingFound("many more on dark", f);
    }

    /** What find() answered before says nothing of what it answers next. */
    private static void againAfterTooMany() {
        PlaceFinder f = withOneFound();
        Check.equal("too many", f.find(1, 1, 300), PlaceFinder.NONE);
        Check.equal("one again", f.find(1, 1, 0), 1);
        Check.equal("one again: stood", f.stood(), 1);
        Check.placeIs("one again", f, 0, 9, 8, 1, 1, 1, 0);
        Check.equal("too many again", f.find(1, 2, 300), PlaceFinder.NONE);
        Check.equal("none", f.find(2, 2, 0), 0);
        Check.nothingFound("none", f);
    }

    /** Promise 8: "0 when nothing is found". */
    private static void stoodIsNothing() {
        PlaceFinder f = new PlaceFinder();
        Check.equal("stood of a new object", f.stood(), 0);
        f.draw(9, 8, Check.packed(1, 1, 1));
        Check.equal("stood before find", f.stood(), 0);
        f.find(1, 16, 0);
        Check.equal("stood behind find", f.stood(), 1);
        f.find(2, 16, 0);
        Check.equal("stood where find answers 0", f.stood(), 0);
        f.find(1, 16, 0);
        f.find(1, 16, 500);
        Check.equal("stood where find answers NONE", f.stood(), 0);
        f.find(1, 16, 0);
        f.sheet(64, 64);
        Check.equal("stood on a new sheet", f.stood(), 0);
    }

    /** Promise 8: "At how many places a symbol could stand": those that do not lead are among them. */
    private static void stoodCountsWhatDoesNotLead() {
        PlaceFinder f = new PlaceFinder();
        for (int width = 21; width <= 28; width++) {
            for (int height = 21; height <= 28; height++) {
                f.sheet(width, height);
                Check.equal("light " + width + " times " + height + ": find", f.find(1, 1, 106), 1);
                Check.equal("light " + width + " times " + height + ": stood", f.stood(), (width - 20) * (height - 20) * 4);
            }
        }
    }

    /** Promise 8: "when find() looked last": not by the sheet as it is now, nor by a refused call. */
    private static void stoodOfTheLastFind() {
        PlaceFinder f = withOneFound();
        f.draw(40, 40, Check.packed(1, 1, 1));
        Check.equal("stood, drawn on", f.stood(), 1);
        Check.illegal("a refused find", () -> f.find(1, 1, 501));
        Check.equal("stood, find refused", f.stood(), 1);
        Check.equal("find", f.find(1, 1, 0), 2);
        Check.equal("stood, found again", f.stood(), 2);
        f.fill(0, 0, 64, 64, true);
        Check.equal("stood, filled", f.stood(), 2);
    }

    /** Promise 9: "NONE when there is none such": by no find() yet, by one that found some, none or too many. */
    private static void noPlaceK() {
        noPlaceK(new PlaceFinder(), 0);
        noPlaceK(withOneFound(), 1);
        noPlaceK(withFiveFound(), 5);
        PlaceFinder none = withFiveFound();
        Check.equal("found none", none.find(2, 2, 0), 0);
        noPlaceK(none, 0);
        PlaceFinder tooMany = withFiveFound();
        Check.equal("found too many", tooMany.find(1, 1, 500), PlaceFinder.NONE);
        noPlaceK(tooMany, 0);
        PlaceFinder another = withFiveFound();
        another.sheet(64, 64);
        noPlaceK(another, 0);
    }

    private static PlaceFinder withFiveFound() {
        PlaceFinder f = new PlaceFinder();
        for (int k = 0; k < 5; k++) {
            f.draw(k % 3 * 21, k / 3 * 21, Check.packed(1, 1, k % 4));
        }
        Check.equal("found", f.find(1, 1, 0), 5);
        return f;
    }

    private static void noPlaceK(PlaceFinder f, int found) {
        int[] ks = {found, found + 1, 299, 300, 301, 512, 65_536, GREAT, -1, -2, -4, -300, LOW, LOW + 1};
        for (int k : ks) {
            for (int what = 0; what < 6; what++) {
                Check.equal(found + " found: place(" + k + ", " + what + ")", f.place(k, what), PlaceFinder.NONE);
            }
        }
        for (int k = 0; k < found; k++) {
            Check.equal(found + " found: place(" + k + ", 2)", f.place(k, 2), 1);
        }
    }

    /** Promise 9: "place k that was found": fewer than those at which one could stand. */
    private static void lastPlaceK() {
        PlaceFinder f = new PlaceFinder();
        f.sheet(23, 21);
        Check.equal("three places: find", f.find(1, 1, 106), 1);
        Check.equal("three places: stood", f.stood(), 12);
        Check.placeIs("three places", f, 0, 0, 0, 1, 1, 0, 106);
        Check.equal("three places: place(1, 0)", f.place(1, 0), PlaceFinder.NONE);
        Check.equal("three places: place(11, 0)", f.place(11, 0), PlaceFinder.NONE);
    }

    /** Promise 9: "IllegalArgumentException: another what", whether there is a place k or not. */
    private static void anotherWhat() {
        int[] whats = {-1, 6, 7, -6, 256, 65_536, LOW, LOW + 5, GREAT};
        int[] ks = {0, 1, -1, 300, LOW, GREAT};
        PlaceFinder f = withOneFound();
        PlaceFinder fresh = new PlaceFinder();
        for (int what : whats) {
            for (int k : ks) {
                Check.illegal("place(" + k + ", " + what + ")", () -> f.place(k, what));
                Check.illegal("new: place(" + k + ", " + what + ")", () -> fresh.place(k, what));
            }
        }
        Check.placeIs("place 0", f, 0, 9, 8, 1, 1, 1, 0);
        Check.nothingFound("new", fresh);
    }
}
