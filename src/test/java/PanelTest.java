/** Promises 6 to 12, and 27 (nextIn). */
public final class PanelTest {
    private static final Check check = new Check("PanelTest");
    private static final int LEAST = Integer.MIN_VALUE;
    private static final int MOST = Integer.MAX_VALUE;
    private static final int[][] NO_CELLS = {{-1, 0}, {3, 0}, {0, -1}, {0, 2}, {MOST, MOST}, {LEAST, LEAST}};

    private static SurveyHouse house() {
        SurveyHouse h = new SurveyHouse();
        h.question(2);
        return h;
    }

    private static void people(SurveyHouse h, int a, int b, int count) {
        for (int k = 0; k < count; k++) {
            h.person(a, b);
        }
    }

    /** An INTERVIEW from its beginning to its END; good ones take 9 SECONDS. */
    private static int interview(SurveyHouse h, int person, int seconds) {
        int i = h.begin(person);
        h.answer(i, 0, seconds);
        return i;
    }

    private static void promise6() {
        SurveyHouse h = new SurveyHouse();
        for (int[] w : NO_CELLS) {
            check.thrown("person(" + w[0] + ", " + w[1] + ")", Check.ARGUMENT, h, () -> h.person(w[0], w[1]));
        }
        for (int k = 0; k < 24; k++) {
            check.due("person", h.person(k % 3, k % 2), k);
            check.due("its A", h.ofPerson(k, 0), k % 3);
            check.due("its B", h.ofPerson(k, 1), k % 2);
        }
        check.thrown("the 25th", Check.STATE, h, () -> h.person(0, 0));
        check.thrown("the 25th, of no A", Check.ARGUMENT, h, () -> h.person(3, 0));
        SurveyHouse late = house();
        late.person(0, 0);
        late.target(0, 0, 1);
        late.begin(0);
        check.due("behind an INTERVIEW, too", late.person(2, 1), 1);
    }

    private static void promise7() {
        SurveyHouse h = house();
        for (int[] w : NO_CELLS) {
            check.thrown("target in no CELL", Check.INDEX, h, () -> h.target(w[0], w[1], 1));
            check.thrown("wrong target in no CELL", Check.INDEX, h, () -> h.target(w[0], w[1], 10));
        }
        for (int wrong : new int[] {LEAST, -1, 10, MOST}) {
            check.thrown("target of " + wrong, Check.ARGUMENT, h, () -> h.target(2, 1, wrong));
        }
        check.due("target(2, 1, 9)", h.target(2, 1, 9), 0);
        check.due("target(2, 1, 0)", h.target(2, 1, 0), 9);
        check.due("target(2, 1, 3)", h.target(2, 1, 3), 0);
        check.due("target(1, 1, 4)", h.target(1, 1, 4), 0);
        check.due("ofCell(2, 1, 0)", h.ofCell(2, 1, 0), 3);
        check.due("ofCell(1, 1, 0)", h.ofCell(1, 1, 0), 4);
        check.due("ofCell(1, 0, 0)", h.ofCell(1, 0, 0), 0);
        check.due("many(6)", h.many(6), 7);
    }

    private static void promise8() {
        SurveyHouse h = house();
        for (int wrong : new int[] {LEAST, -1, 4, MOST}) {
            check.thrown("soft(" + wrong + ")", Check.ARGUMENT, h, () -> h.soft(wrong));
        }
        check.due("soft(3)", h.soft(3), 0);
        check.due("soft(1)", h.soft(1), 3);
        check.due("all are FILLED as all TARGETS tell", h.many(7), 0);
        h.target(2, 1, 1);
        check.due("open by SOFT, TARGET 0", h.ofCell(0, 0, 2), 1);
        check.due("all are OPEN", h.many(7), 6);
        people(h, 0, 0, 2);
        interview(h, 0, 9);
        check.due("FILLED as much as TARGET and SOFT", h.ofCell(0, 0, 2), 0);
        check.due("all FILLED as all TARGETS", h.ofCell(1, 0, 2), 0);
        check.due("below its own TARGET still", h.ofCell(2, 1, 2), 1);
        h.soft(2);
        check.due("all FILLED as all TARGETS", h.ofCell(0, 0, 2), 0);
        h.target(2, 1, 2);
        check.due("below the sum, and below all", h.ofCell(0, 0, 2), 1);
        h.soft(0);
        check.due("without SOFT", h.many(7), 1);
    }

    private static void promise9() {
        SurveyHouse h = house();
        people(h, 0, 1, 3);
        people(h, 1, 0, 2);
        h.target(0, 1, 2);
        int[] due = {2, 0, 1, 3, 3};
        for (int what = 0; what <= 4; what++) {
            check.due("ofCell(0, 1, " + what + ")", h.ofCell(0, 1, what), due[what]);
        }
        interview(h, 1, 9);
        h.begin(2);
        check.due("FILLED", h.ofCell(0, 1, 1), 1);
        check.due("can be ASKED", h.ofCell(0, 1, 4), 1);
        h.answer(1, 0, 9);
        int[] then = {2, 2, 0, 3, 0};
        for (int what = 0; what <= 4; what++) {
            check.due("then ofCell(0, 1, " + what + ")", h.ofCell(0, 1, what), then[what]);
        }
        int[] shut = {0, 0, 0, 2, 0};
        for (int what = 0; what <= 4; what++) {
            check.due("ofCell(1, 0, " + what + ")", h.ofCell(1, 0, what), shut[what]);
        }
        for (int wrong : new int[] {LEAST, -1, 5, MOST}) {
            check.thrown("ofCell(0, 1, " + wrong + ")", Check.ARGUMENT, h, () -> h.ofCell(0, 1, wrong));
        }
        for (int[] w : NO_CELLS) {
            check.thrown("ofCell of none", Check.INDEX, h, () -> h.ofCell(w[0], w[1], 0));
            check.thrown("ofCell of none, nor what", Check.INDEX, h, () -> h.ofCell(w[0], w[1], 5));
        }
    }

    private static void ofPerson(SurveyHouse h, int person, int... due) {
        for (int what = 0; what <= 5; what++) {
            check.due("ofPerson(" + person + ", " + what + ")", h.ofPerson(person, what), due[what]);
        }
    }

    private static void promise10() {
        SurveyHouse h = house();
        h.person(2, 1);
        h.person(2, 0);
        ofPerson(h, 0, 2, 1, 0, 0, 0, -1);
        h.target(2, 1, 1);
        ofPerson(h, 0, 2, 1, 0, 0, 1, -1);
        h.begin(0);
        ofPerson(h, 0, 2, 1, 2, 0, 0, 0);
        h.answer(0, 0, 1);
        ofPerson(h, 0, 2, 1, 2, 10, 0, 0);
        h.clean();
        ofPerson(h, 0, 2, 1, 2, 0, 1, 0);
        h.begin(0);
        h.target(2, 1, 0);
        h.answer(1, 1, 9);
        ofPerson(h, 0, 2, 1, 4, 2, 0, 1);
        h.target(2, 1, 1);
        ofPerson(h, 0, 2, 1, 4, 2, 1, 1);
        interview(h, 0, 2);
        h.clean();
        ofPerson(h, 0, 2, 1, 6, 2, 0, 2);
        h.day();
        ofPerson(h, 0, 2, 1, 5, 2, 0, 2);
        h.day();
        ofPerson(h, 0, 2, 1, 4, 2, 1, 2);
        ofPerson(h, 1, 2, 0, 0, 0, 0, -1);
        for (int wrong : new int[] {LEAST, -1, 6, MOST}) {
            check.thrown("ofPerson(0, " + wrong + ")", Check.ARGUMENT, h, () -> h.ofPerson(0, wrong));
        }
        for (int wrong : new int[] {LEAST, -1, 2, MOST}) {
            check.thrown("ofPerson(" + wrong + ", 0)", Check.INDEX, h, () -> h.ofPerson(wrong, 0));
            check.thrown("ofPerson(" + wrong + ", 6)", Check.INDEX, h, () -> h.ofPerson(wrong, 6));
        }
    }

    private static void promise11() {
        SurveyHouse h = house();
        check.due("nobody", h.next(), -1);
        people(h, 0, 0, 2);
        people(h, 1, 1, 3);
        check.due("no CELL is OPEN", h.next(), -1);
        h.target(0, 0, 1);
        check.due("the smallest number", h.next(), 0);
        h.target(1, 1, 3);
        check.due("the CELL that lacks the most", h.next(), 2);
        interview(h, 2, 1);
        h.clean();
        check.due("the least FATIGUE", h.next(), 3);
        h.day();
        h.day();
        check.due("FATIGUE is alike again", h.next(), 2);
        h.begin(2);
        check.due("one that is RUNNING is left out", h.next(), 3);
        h.answer(1, 0, 9);
        check.due("one that is COMPLETE, too", h.next(), 3);
        interview(h, 3, 9);
        check.due("each lacks 1, FATIGUE 0 each", h.next(), 0);
        h.target(0, 0, 0);
        h.soft(2);
        check.due("lacks 1 against 0", h.next(), 4);
        h.target(1, 1, 2);
        h.target(2, 0, 1);
        check.due("both open by SOFT alone, both lack 0", h.next(), 0);
        interview(h, 0, 9);
        h.target(2, 0, 2);
        check.due("lacks 0 against 1 too many", h.next(), 4);
        h.target(1, 1, 1);
        h.soft(3);
        h.target(2, 0, 9);
        check.due("lacks -1 each, the smaller number", h.next(), 1);
    }

    private static void promise12() {
        SurveyHouse h = house();
        people(h, 0, 0, 2);
        h.target(0, 0, 2);
        h.begin(1);
        check.due("many(11)", h.many(11), 0);
        for (int day = 1; day <= 4; day++) {
            check.due("day()", h.day(), day);
            check.due("many(11)", h.many(11), day);
            check.due("FATIGUE", h.ofPerson(1, 2), Math.max(0, 2 - day));
            check.due("FATIGUE of the other", h.ofPerson(0, 2), 0);
        }
    }

    private static void promise27() {
        SurveyHouse h = house();
        for (int wrong : new int[] {LEAST, -1, 10, MOST}) {
            check.thrown("nextIn(" + wrong + ")", Check.ARGUMENT, h, () -> h.nextIn(wrong));
        }
        check.due("nobody", h.nextIn(9), -1);
        people(h, 0, 0, 1);
        people(h, 0, 1, 2);
        h.target(0, 1, 2);
        for (int k = 0; k < 3; k++) {
            interview(h, 1, 1);
            h.clean();
        }
        interview(h, 2, 1);
        h.clean();
        check.due("FATIGUE 6 and 2", h.nextIn(0), 2);
        check.due("FATIGUE 5 and 1", h.nextIn(1), 2);
        check.due("FATIGUE 1 and 0", h.nextIn(5), 2);
        check.due("FATIGUE 0 and 0", h.nextIn(6), 1);
        check.due("FATIGUE 0 and 0", h.nextIn(9), 1);
        h.begin(2);
        check.due("FATIGUE 6", h.nextIn(0), -1);
        check.due("FATIGUE 5", h.nextIn(1), -1);
        check.due("FATIGUE 4", h.nextIn(2), 1);
        check.due("FATIGUE 6 still", h.ofPerson(1, 2), 6);
        check.due("the DAY still", h.many(11), 0);
        check.due("next()", h.next(), -1);
        h.day();
        check.due("FATIGUE 5, next()", h.next(), -1);
        check.due("FATIGUE 5, ofCell(0, 1, 4)", h.ofCell(0, 1, 4), 0);
        h.day();
        check.due("FATIGUE 4, next()", h.next(), 1);
        check.due("FATIGUE 4, ofCell(0, 1, 4)", h.ofCell(0, 1, 4), 1);
    }

    public static void main(String[] args) {
        promise6();
        promise7();
        promise8();
        promise9();
        promise10();
        promise11();
        promise12();
        promise27();
        check.end();
    }
}
