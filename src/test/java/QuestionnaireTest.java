/** Promises 1 to 5, and 29 (shortest), which asks about ROUTES alone. */
public final class QuestionnaireTest {
    private static final Check check = new Check("QuestionnaireTest");
    private static final int LEAST = Integer.MIN_VALUE;
    private static final int MOST = Integer.MAX_VALUE;

    private static SurveyHouse house(int... answers) {
        SurveyHouse h = new SurveyHouse();
        for (int count : answers) {
            h.question(count);
        }
        return h;
    }

    /** One INTERVIEW has begun in it, so that the questionnaire is closed. */
    private static SurveyHouse closed(int... answers) {
        SurveyHouse h = house(answers);
        h.person(0, 0);
        h.target(0, 0, 1);
        h.begin(0);
        return h;
    }

    private static void promise1() {
        SurveyHouse h = new SurveyHouse();
        for (int what = 0; what <= 11; what++) {
            check.due("new, many(" + what + ")", h.many(what), 0);
        }
        for (int a = 0; a < 3; a++) {
            for (int b = 0; b < 2; b++) {
                for (int what = 0; what <= 4; what++) {
                    check.due("new, ofCell", h.ofCell(a, b, what), 0);
                }
            }
        }
        check.due("new, next()", h.next(), -1);
        check.due("new, off()", h.off(), 0);
        check.due("new, meanSeconds()", h.meanSeconds(), 0.0);
        check.due("new, cleaned()", h.cleaned(), 0);
        check.due("new, clean()", h.clean(), 0);
        check.due("new, rotate(0)", h.rotate(0), 0);
        check.due("new, soft(0)", h.soft(0), 0);
        check.due("new, rounds(3)", h.rounds(3), 3);
        check.thrown("new, behind(0, 0)", Check.INDEX, h, () -> h.behind(0, 0));
        check.thrown("new, ofPerson(0, 0)", Check.INDEX, h, () -> h.ofPerson(0, 0));
        check.thrown("new, ofInterview(0, 0)", Check.INDEX, h, () -> h.ofInterview(0, 0));
        check.thrown("new, held(0, 0, 0)", Check.INDEX, h, () -> h.held(0, 0, 0));
        SurveyHouse other = house(2);
        check.due("another object stands for itself", h.many(0) + 10 * other.many(0), 10);
    }

    private static void promise2() {
        SurveyHouse h = new SurveyHouse();
        for (int wrong : new int[] {LEAST, -1, 0, 1, 6, MOST}) {
            check.thrown("question(" + wrong + ")", Check.ARGUMENT, h, () -> h.question(wrong));
        }
        for (int k = 0; k < 10; k++) {
            check.due("question", h.question(2 + k % 4), k);
            check.due("many(0)", h.many(0), k + 1);
            int number = k;
            int answers = 2 + k % 4;
            check.due("behind its last ANSWER", h.behind(number, answers - 1), -1);
            check.thrown("behind one more", Check.INDEX, h, () -> h.behind(number, answers));
        }
        check.thrown("the 11th", Check.STATE, h, () -> h.question(2));
        check.thrown("the 11th, of 6", Check.ARGUMENT, h, () -> h.question(6));
        SurveyHouse c = closed(2);
        check.thrown("behind an INTERVIEW", Check.STATE, c, () -> c.question(2));
        check.thrown("behind an INTERVIEW, of 1", Check.ARGUMENT, c, () -> c.question(1));
        c.answer(0, 0, 1);
        c.clean();
        check.thrown("behind an INTERVIEW that was CLEANED", Check.STATE, c, () -> c.question(2));
    }

    private static void promise3() {
        SurveyHouse h = house(3, 2, 5, 2);
        check.due("route(0, 2, 3)", h.route(0, 2, 3), 1);
        check.due("behind(0, 2)", h.behind(0, 2), 3);
        check.due("behind(0, 1)", h.behind(0, 1), 1);
        check.due("route(0, 2, -1)", h.route(0, 2, -1), 3);
        check.due("route(0, 2, 1)", h.route(0, 2, 1), -1);
        check.due("route(3, 0, -1)", h.route(3, 0, -1), -1);
        check.due("route(2, 4, 3)", h.route(2, 4, 3), 3);
        check.thrown("no such QUESTION", Check.INDEX, h, () -> h.route(4, 0, -1));
        check.thrown("no such QUESTION", Check.INDEX, h, () -> h.route(-1, 0, 1));
        check.thrown("no such ANSWER", Check.INDEX, h, () -> h.route(1, 2, 2));
        check.thrown("no such ANSWER", Check.INDEX, h, () -> h.route(1, -1, 2));
        check.thrown("far out", Check.INDEX, h, () -> h.route(MOST, MOST, MOST));
        check.thrown("far below", Check.INDEX, h, () -> h.route(LEAST, LEAST, LEAST));
        check.thrown("no such one to go to", Check.INDEX, h, () -> h.route(0, 0, 4));
        check.thrown("no such one to go to", Check.INDEX, h, () -> h.route(0, 0, -2));
        check.thrown("to itself", Check.ARGUMENT, h, () -> h.route(1, 0, 1));
        check.thrown("back", Check.ARGUMENT, h, () -> h.route(2, 0, 0));
        check.thrown("back from no such ANSWER", Check.INDEX, h, () -> h.route(2, 5, 0));
        SurveyHouse c = closed(2, 2);
        check.thrown("behind an INTERVIEW", Check.STATE, c, () -> c.route(0, 0, -1));
        check.thrown("behind an INTERVIEW, back", Check.ARGUMENT, c, () -> c.route(1, 0, 0));
        check.thrown("behind an INTERVIEW, out", Check.INDEX, c, () -> c.route(1, 0, 2));
        check.due("nothing is set", c.behind(0, 0), 1);
    }

    private static void promise4() {
        SurveyHouse h = house(2);
        check.due("rotate(1)", h.rotate(1), 0);
        check.thrown("rotate(2) with one QUESTION", Check.ARGUMENT, h, () -> h.rotate(2));
        h.question(2);
        h.question(2);
        check.due("rotate(2)", h.rotate(2), 1);
        check.due("rotate(3)", h.rotate(3), 2);
        h.question(2);
        for (int wrong : new int[] {LEAST, -1, 4, MOST}) {
            check.thrown("rotate(" + wrong + ")", Check.ARGUMENT, h, () -> h.rotate(wrong));
        }
        check.due("rotate(0)", h.rotate(0), 3);
        SurveyHouse c = closed(2, 2);
        check.thrown("behind an INTERVIEW", Check.STATE, c, () -> c.rotate(0));
        check.thrown("behind an INTERVIEW, too many", Check.ARGUMENT, c, () -> c.rotate(3));
        SurveyHouse empty = new SurveyHouse();
        check.thrown("rotate(1) without QUESTIONS", Check.ARGUMENT, empty, () -> empty.rotate(1));
    }

    private static void promise5() {
        SurveyHouse h = house(2, 2);
        check.due("behind(0, 0)", h.behind(0, 0), 1);
        check.due("behind(1, 1)", h.behind(1, 1), -1);
        h.route(1, 0, -1);
        h.question(2);
        check.due("without a ROUTE, on to the new one", h.behind(1, 1), 2);
        check.due("with a ROUTE, to the END still", h.behind(1, 0), -1);
        h.rotate(2);
        check.due("ROTATION aside", h.behind(0, 0), 1);
        check.due("ROTATION aside", h.behind(1, 0), -1);
        int[][] wrong = {{3, 0}, {-1, 0}, {0, 2}, {0, -1}, {MOST, MOST}, {LEAST, LEAST}};
        for (int[] w : wrong) {
            check.thrown("behind(" + w[0] + ", " + w[1] + ")", Check.INDEX, h, () -> h.behind(w[0], w[1]));
        }
    }

    private static void promise29() {
        SurveyHouse h = house(2, 2, 2, 2, 2);
        for (int q = 0; q < 5; q++) {
            check.due("without ROUTES, shortest(" + q + ")", h.shortest(q), 5 - q);
        }
        h.route(0, 1, 3);
        check.due("shortest(0)", h.shortest(0), 3);
        h.route(3, 1, -1);
        check.due("shortest(0)", h.shortest(0), 2);
        check.due("shortest(3)", h.shortest(3), 1);
        check.due("shortest(1)", h.shortest(1), 3);
        h.rotate(3);
        check.due("ROTATION aside, shortest(0)", h.shortest(0), 2);
        for (int wrong : new int[] {LEAST, -1, 5, MOST}) {
            check.thrown("shortest(" + wrong + ")", Check.INDEX, h, () -> h.shortest(wrong));
        }
        h.route(0, 1, 1);
        h.route(0, 0, 4);
        check.due("by the other ANSWER", h.shortest(0), 2);
        check.due("ten in a row", house(2, 2, 2, 2, 2, 2, 2, 2, 2, 2).shortest(0), 10);
    }

    public static void main(String[] args) {
        promise1();
        promise2();
        promise3();
        promise4();
        promise5();
        promise29();
        check.end();
    }
}
