/** Promises 13 to 18, and 26 (cleaned). */
public final class InterviewsTest {
    private static final Check check = new Check("InterviewsTest");
    private static final int LEAST = Integer.MIN_VALUE;
    private static final int MOST = Integer.MAX_VALUE;

    private static SurveyHouse house(int questions, int people, int target) {
        SurveyHouse h = new SurveyHouse();
        for (int k = 0; k < questions; k++) {
            h.question(3);
        }
        for (int k = 0; k < people; k++) {
            h.person(0, 0);
        }
        h.target(0, 0, target);
        return h;
    }

    private static void ofInterview(SurveyHouse h, int interview, int... due) {
        for (int what = 0; what <= 6; what++) {
            check.due("ofInterview(" + interview + ", " + what + ")", h.ofInterview(interview, what), due[what]);
        }
    }

    private static void promise13() {
        SurveyHouse none = house(0, 1, 1);
        check.thrown("begin(0) without QUESTIONS", Check.STATE, none, () -> none.begin(0));
        check.thrown("begin(1) without QUESTIONS", Check.INDEX, none, () -> none.begin(1));
        SurveyHouse shut = house(1, 1, 0);
        check.thrown("begin(0) in a CELL that is not OPEN", Check.STATE, shut, () -> shut.begin(0));
        SurveyHouse h = house(1, 3, 2);
        for (int wrong : new int[] {LEAST, -1, 3, MOST}) {
            check.thrown("begin(" + wrong + ")", Check.INDEX, h, () -> h.begin(wrong));
        }
        check.due("begin(2)", h.begin(2), 0);
        ofInterview(h, 0, 2, 0, 0, 0, 0, 0, 0);
        check.due("FATIGUE", h.ofPerson(2, 2), 2);
        check.thrown("it is RUNNING", Check.STATE, h, () -> h.begin(2));
        h.answer(0, 0, 9);
        check.thrown("it is COMPLETE", Check.STATE, h, () -> h.begin(2));
        check.due("begin(0)", h.begin(0), 1);
        check.due("FILLED by those that are COMPLETE alone", h.begin(1), 2);
        tired();
        forty();
    }

    private static void tired() {
        SurveyHouse h = house(1, 1, 1);
        for (int k = 0; k < 3; k++) {
            check.due("begin(0)", h.begin(0), k);
            h.answer(k, 0, 1);
            h.clean();
        }
        check.thrown("FATIGUE 6", Check.STATE, h, () -> h.begin(0));
        h.day();
        check.thrown("FATIGUE 5", Check.STATE, h, () -> h.begin(0));
        h.day();
        check.due("FATIGUE 4", h.begin(0), 3);
    }

    private static void forty() {
        SurveyHouse h = house(1, 20, 9);
        for (int k = 0; k < 40; k++) {
            check.due("begin", h.begin(k % 20), k);
            h.answer(k, 1, 1);
            h.clean();
        }
        check.thrown("the 41st", Check.STATE, h, () -> h.begin(0));
        check.thrown("the 41st, of nobody", Check.INDEX, h, () -> h.begin(20));
        check.due("many(5)", h.many(5), 40);
        check.due("ofInterview(39, 1)", h.ofInterview(39, 1), 3);
        check.due("given(39, 0)", h.given(39, 0), 1);
    }

    private static void promise14() {
        SurveyHouse h = new SurveyHouse();
        h.question(2);
        h.question(5);
        h.question(3);
        h.route(0, 1, 2);
        h.route(1, 4, -1);
        for (int k = 0; k < 3; k++) {
            h.person(1, 0);
        }
        h.target(1, 0, 1);
        h.begin(0);
        h.begin(1);
        h.begin(2);
        check.thrown("no such INTERVIEW", Check.INDEX, h, () -> h.answer(3, 0, 1));
        check.thrown("no such INTERVIEW", Check.INDEX, h, () -> h.answer(-1, 9, 0));
        check.thrown("no such INTERVIEW", Check.INDEX, h, () -> h.answer(MOST, MOST, MOST));
        check.thrown("no such ANSWER", Check.ARGUMENT, h, () -> h.answer(0, 2, 1));
        check.thrown("no such ANSWER", Check.ARGUMENT, h, () -> h.answer(0, -1, 1));
        check.thrown("no such ANSWER", Check.ARGUMENT, h, () -> h.answer(0, LEAST, 1));
        for (int wrong : new int[] {LEAST, -1, 0, 100, MOST}) {
            check.thrown(wrong + " SECONDS", Check.ARGUMENT, h, () -> h.answer(0, 0, wrong));
        }
        check.due("answer(0, 0, 1)", h.answer(0, 0, 1), 1);
        check.due("answer(0, 4, 99)", h.answer(0, 4, 99), -1);
        ofInterview(h, 0, 0, 1, -1, 2, 100, 1000, 0);
        check.due("POINTS", h.ofPerson(0, 3), 10);
        check.due("answer(1, 1, 5), by its ROUTE", h.answer(1, 1, 5), 2);
        ofInterview(h, 1, 1, 0, 2, 1, 5, 0, 0);
        check.due("answer(1, 2, 6)", h.answer(1, 2, 6), -1);
        ofInterview(h, 1, 1, 2, -1, 2, 11, 0, 0);
        check.due("POINTS of one that is OUT", h.ofPerson(1, 3), 2);
        check.due("FILLED", h.ofCell(1, 0, 1), 1);
        check.thrown("it is COMPLETE", Check.STATE, h, () -> h.answer(0, 0, 1));
        check.thrown("it is OUT", Check.STATE, h, () -> h.answer(1, 9, 0));
        h.target(1, 0, 2);
        h.answer(2, 0, 1);
        check.due("on by number", h.answer(2, 3, 1), 2);
        check.due("the last one", h.answer(2, 0, 1), -1);
        check.due("OPEN again at the END", h.ofInterview(2, 1), 1);
        h.clean();
        check.thrown("it is CLEANED", Check.STATE, h, () -> h.answer(2, 0, 1));
        rotation();
    }

    private static void path(SurveyHouse h, int interview, int... places) {
        for (int k = 0; k + 1 < places.length; k++) {
            check.due("ROTATION, at " + k, h.ofInterview(interview, 2), places[k]);
            check.due("ROTATION, behind " + k, h.answer(interview, 0, 9), places[k + 1]);
        }
        check.due("the END", h.ofInterview(interview, 2), -1);
    }

    private static void rotation() {
        SurveyHouse h = house(5, 4, 9);
        h.rotate(3);
        h.route(0, 0, -1);
        h.route(2, 0, 4);
        h.route(3, 0, -1);
        for (int k = 0; k < 4; k++) {
            h.begin(k);
        }
        path(h, 0, 0, 1, 2, 3, -1);
        path(h, 1, 1, 2, 0, 3, -1);
        path(h, 2, 2, 0, 1, 3, -1);
        path(h, 3, 0, 1, 2, 3, -1);
        SurveyHouse all = house(2, 2, 9);
        all.rotate(2);
        all.begin(0);
        all.begin(1);
        path(all, 0, 0, 1, -1);
        path(all, 1, 1, 0, -1);
        SurveyHouse one = house(2, 2, 9);
        one.rotate(1);
        one.route(0, 0, -1);
        one.begin(0);
        one.begin(1);
        path(one, 1, 0, 1, -1);
        SurveyHouse none = house(3, 2, 9);
        none.route(0, 0, 2);
        none.begin(0);
        none.begin(1);
        path(none, 1, 0, 2, -1);
    }

    private static void promise15() {
        SurveyHouse h = house(2, 2, 2);
        h.begin(1);
        ofInterview(h, 0, 1, 0, 0, 0, 0, 0, 0);
        h.answer(0, 1, 2);
        ofInterview(h, 0, 1, 0, 1, 1, 2, 0, 0);
        h.answer(0, 2, 3);
        ofInterview(h, 0, 1, 1, -1, 2, 5, 2000, 1);
        h.clean();
        ofInterview(h, 0, 1, 3, -1, 2, 5, 0, 0);
        for (int wrong : new int[] {LEAST, -1, 7, MOST}) {
            check.thrown("ofInterview(0, " + wrong + ")", Check.ARGUMENT, h, () -> h.ofInterview(0, wrong));
        }
        for (int wrong : new int[] {LEAST, -1, 1, MOST}) {
            check.thrown("ofInterview(" + wrong + ", 0)", Check.INDEX, h, () -> h.ofInterview(wrong, 0));
            check.thrown("ofInterview(" + wrong + ", 7)", Check.INDEX, h, () -> h.ofInterview(wrong, 7));
        }
    }

    private static void promise16() {
        SurveyHouse h = house(3, 1, 1);
        h.route(0, 2, 2);
        h.begin(0);
        check.due("given(0, 0)", h.given(0, 0), -1);
        h.answer(0, 2, 5);
        h.answer(0, 0, 5);
        check.due("given(0, 0)", h.given(0, 0), 2);
        check.due("given(0, 1), passed by", h.given(0, 1), -1);
        check.due("given(0, 2)", h.given(0, 2), 0);
        int[][] wrong = {{1, 0}, {-1, 0}, {0, 3}, {0, -1}, {MOST, MOST}, {LEAST, LEAST}};
        for (int[] w : wrong) {
            check.thrown("given(" + w[0] + ", " + w[1] + ")", Check.INDEX, h, () -> h.given(w[0], w[1]));
        }
    }

    private static int run(SurveyHouse h, int person, int seconds, int... answers) {
        int i = h.begin(person);
        for (int a : answers) {
            h.answer(i, a, seconds);
        }
        return i;
    }

    private static void promise17() {
        SurveyHouse h = house(5, 8, 9);
        h.route(2, 1, -1);
        h.route(3, 1, -1);
        run(h, 0, 9, 0, 0, 1);
        run(h, 1, 9, 1, 1, 1);
        run(h, 2, 9, 0, 1, 2, 1);
        run(h, 3, 9, 0, 0, 0, 0, 0);
        run(h, 4, 9, 2, 2, 2, 2, 2);
        run(h, 5, 9, 2, 2, 2, 2, 1);
        run(h, 6, 2, 0, 1, 2, 0, 1);
        run(h, 7, 3, 0, 1, 2, 0, 1);
        int[] due = {0, 0, 0, 1, 1, 0, 1, 0};
        for (int i = 0; i < due.length; i++) {
            check.due("ofInterview(" + i + ", 6)", h.ofInterview(i, 6), due[i]);
        }
        check.due("FILLED", h.ofCell(0, 0, 1), 8);
        check.due("cleaned()", h.cleaned(), 3);
        check.due("clean()", h.clean(), 3);
        for (int i = 0; i < due.length; i++) {
            check.due("ofInterview(" + i + ", 1)", h.ofInterview(i, 1), due[i] == 1 ? 3 : 1);
            check.due("POINTS", h.ofPerson(i, 3), due[i] == 1 ? 0 : 10);
            check.due("FATIGUE", h.ofPerson(i, 2), 2);
        }
        check.due("FILLED", h.ofCell(0, 0, 1), 5);
        check.due("clean()", h.clean(), 0);
        edges();
    }

    private static void edges() {
        SurveyHouse h = house(4, 4, 3);
        run(h, 0, 9, 0, 0, 0, 0);
        h.begin(1);
        h.answer(1, 0, 2);
        h.answer(1, 1, 3);
        h.answer(1, 2, 3);
        h.answer(1, 1, 3);
        check.due("4 ANSWERS in 11 SECONDS", h.ofInterview(1, 6), 1);
        h.begin(2);
        h.answer(2, 0, 1);
        h.answer(2, 1, 1);
        h.answer(2, 0, 1);
        check.due("RUNNING is not to be CLEANED", h.ofInterview(2, 6), 0);
        h.begin(3);
        h.answer(2, 1, 9);
        check.due("4 ANSWERS in 12 SECONDS", h.ofInterview(2, 6), 0);
        for (int k = 0; k < 4; k++) {
            h.answer(3, 0, 1);
        }
        check.due("OUT is not to be CLEANED", h.ofInterview(3, 1) * 10 + h.ofInterview(3, 6), 20);
        check.due("clean()", h.clean(), 2);
        check.due("freed", h.ofCell(0, 0, 1), 1);
        check.due("OUT and CLEANED can be ASKED", h.ofCell(0, 0, 4), 3);
        check.due("begin(3) again", h.begin(3), 4);
    }

    private static void promise18() {
        SurveyHouse h = house(1, 6, 4);
        h.person(2, 1);
        h.target(1, 1, 2);
        run(h, 0, 9, 0);
        run(h, 1, 1, 0);
        h.clean();
        run(h, 2, 9, 0);
        h.begin(3);
        h.begin(4);
        h.target(0, 0, 2);
        h.answer(3, 1, 9);
        h.target(0, 0, 4);
        h.hold();
        h.hold();
        h.day();
        int[] due = {1, 7, 1, 2, 1, 1, 6, 2, 3, 22, 2, 1};
        for (int what = 0; what <= 11; what++) {
            check.due("many(" + what + ")", h.many(what), due[what]);
        }
        for (int wrong : new int[] {LEAST, -1, 12, MOST}) {
            check.thrown("many(" + wrong + ")", Check.ARGUMENT, h, () -> h.many(wrong));
        }
    }

    private static void promise26() {
        SurveyHouse h = house(1, 3, 2);
        h.person(1, 0);
        h.target(1, 0, 1);
        run(h, 0, 1, 0);
        check.due("its CELL is OPEN already", h.cleaned(), 1);
        run(h, 1, 1, 0);
        check.due("its CELL would be OPEN", h.cleaned(), 102);
        run(h, 3, 9, 0);
        check.due("the other one stays shut", h.cleaned(), 102);
        h.soft(1);
        check.due("by SOFT the whole house would be", h.cleaned(), 602);
        check.due("nothing is changed", h.many(3) * 100 + h.many(5) * 10 + h.many(7), 300);
        check.due("clean()", h.clean(), 2);
        check.due("all are OPEN", h.many(7), 6);
        check.due("then cleaned()", h.cleaned(), 0);
    }

    public static void main(String[] args) {
        promise13();
        promise14();
        promise15();
        promise16();
        promise17();
        promise18();
        promise26();
        check.end();
    }
}
