/** The edges of the first part of "Terms", and of promises 1 to 5 and 29. */
public final class QuestionnaireEdgesTest {
    private static final Edges edges = new Edges("QuestionnaireEdgesTest");
    private static final int LEAST = Integer.MIN_VALUE;
    private static final int MOST = Integer.MAX_VALUE;
    private static final String ORDER = "If several exceptions apply, the one that is named first is thrown.";

    /** So many QUESTIONS, of 2, 3, 4, 5, 2, 3 .. ANSWERS. */
    private static Scene questions(int count) {
        Scene scene = Scene.empty();
        for (int k = 0; k < count; k++) {
            scene = scene.questions(answersOf(k));
        }
        return scene;
    }

    private static int answersOf(int question) {
        return 2 + question % 4;
    }

    private static void newObject() {
        edges.sentence("Creates a house without QUESTIONS and PEOPLE.");
        Scene none = Scene.empty();
        edges.due(none, "many(0)", h -> h.many(0), 0);
        edges.due(none, "many(1)", h -> h.many(1), 0);
        edges.refused(none, "behind(0, 0)", h -> h.behind(0, 0), Edges.INDEX);
        edges.refused(none, "route(0, 0, -1)", h -> h.route(0, 0, -1), Edges.INDEX);
        edges.refused(none, "shortest(0)", h -> h.shortest(0), Edges.INDEX);
        edges.refused(none, "share(0, 0, -1)", h -> h.share(0, 0, -1), Edges.INDEX);
        edges.refused(none, "isMarked(0, 0, 0, 1)", h -> h.isMarked(0, 0, 0, 1), Edges.INDEX);
        edges.refused(none, "ofPerson(0, 0)", h -> h.ofPerson(0, 0), Edges.INDEX);
        edges.refused(none, "begin(0)", h -> h.begin(0), Edges.INDEX);
        edges.refused(none, "answer(0, 0, 1)", h -> h.answer(0, 0, 1), Edges.INDEX);
        edges.refused(none, "ofInterview(0, 0)", h -> h.ofInterview(0, 0), Edges.INDEX);
        edges.refused(none, "given(0, 0)", h -> h.given(0, 0), Edges.INDEX);
        edges.refused(none, "held(0, 0, 0)", h -> h.held(0, 0, 0), Edges.INDEX);
        edges.due(none, "question(2)", h -> h.question(2), 0);
        edges.due(none, "person(0, 0)", h -> h.person(0, 0), 0);
        edges.due(none, "clean()", h -> h.clean(), 0);
        edges.due(none, "hold()", h -> h.hold(), 0);
        edges.due(Scene.empty().questions(2).people(2, 1, 1), "another object", h -> new SurveyHouse().many(0), 0);
    }

    private static void allItsCalls() {
        edges.sentence("An object is used for at most 512 calls after it has been made");
        edges.due(Scene.empty().days(510), "day(), the 511th call", h -> h.day(), 511);
        edges.due(Scene.empty().days(511), "day(), the 512th call", h -> h.day(), 512);
        Scene ready = Scene.of(1, 1, 1);
        Scene asked = ready;
        for (int k = ready.size(); k < 511; k++) {
            asked = asked.then(h -> h.next());
        }
        long same = ready.house().digest();
        edges.due(asked, "digest(), the 512th call", h -> h.digest(), same);
        edges.due(asked, "begin(0), the 512th call", h -> h.begin(0), 0);
    }

    private static void atFirst() {
        edges.sentence("NONE is -1.");
        edges.due(Scene.empty(), "next()", h -> h.next(), -1);
        edges.due(questions(1), "behind(0, 0)", h -> h.behind(0, 0), -1);
        edges.sentence("The DAY is 0 at first.");
        edges.due(Scene.empty(), "many(11)", h -> h.many(11), 0);
        edges.due(Scene.empty().days(1), "many(11)", h -> h.many(11), 1);
    }

    private static void tenQuestions() {
        edges.sentence("QUESTIONS: at most 10, numbered from 0");
        for (int k = 0; k < 10; k++) {
            edges.due(questions(k), "question(2), with " + k, h -> h.question(2), k);
            edges.due(questions(k + 1), "many(0)", h -> h.many(0), k + 1);
        }
        edges.sentence("Throws `IllegalStateException` if there are 10, or there was an INTERVIEW");
        edges.refused(questions(10), "question(2), with 10", h -> h.question(2), Edges.STATE);
        edges.due(Scene.of(9, 1, 1), "question(5), with 9", h -> h.question(5), 9);
        for (int state = 0; state <= 3; state++) {
            edges.refused(Scene.inState(state), "question(2), one INTERVIEW in state " + state,
                    h -> h.question(2), Edges.STATE);
        }
    }

    private static void twoToFiveAnswers() {
        edges.sentence("Throws `IllegalArgumentException` if answers is not 2 to 5");
        edges.bounds(Scene.empty(), "question(#)", 2, 5, Edges.ARGUMENT, (h, n) -> h.question(n));
        edges.bounds(questions(9), "question(#)", 2, 5, Edges.ARGUMENT, (h, n) -> h.question(n));
        edges.refused(questions(1), "question(0)", h -> h.question(0), Edges.ARGUMENT);
        edges.sentence("each with 2 to 5 ANSWERS, numbered from 0");
        for (int count = 2; count <= 5; count++) {
            Scene one = Scene.empty().questions(count);
            Scene middle = questions(3).questions(count).questions(5);
            edges.bounds(one, "behind(0, #)", 0, count - 1, Edges.INDEX, (h, n) -> h.behind(0, n));
            edges.bounds(middle, "behind(3, #)", 0, count - 1, Edges.INDEX, (h, n) -> h.behind(3, n));
        }
        edges.sentence(ORDER);
        edges.refused(questions(10), "question(1), with 10", h -> h.question(1), Edges.ARGUMENT);
        edges.refused(questions(10), "question(6), with 10", h -> h.question(6), Edges.ARGUMENT);
        edges.refused(Scene.inState(0), "question(1), behind an INTERVIEW", h -> h.question(1), Edges.ARGUMENT);
        edges.refused(Scene.inState(3), "question(6), behind an INTERVIEW", h -> h.question(6), Edges.ARGUMENT);
    }

    private static void endBehindTheLast() {
        edges.sentence("it goes on with the next QUESTION by number (END behind the last one), if there is no ROUTE "
                + "for it");
        for (int count = 1; count <= 10; count++) {
            for (int q = 0; q < count; q++) {
                int question = q;
                int to = q + 1 < count ? q + 1 : -1;
                edges.due(questions(count), "behind(" + q + ", 0), of " + count, h -> h.behind(question, 0), to);
                edges.due(questions(count), "behind(" + q + ", its last), of " + count,
                        h -> h.behind(question, answersOf(question) - 1), to);
            }
        }
        edges.due(questions(1).questions(2), "behind(0, 0), one was added", h -> h.behind(0, 0), 1);
        edges.due(questions(1).route(0, 0, -1).questions(2), "behind(0, 0), by its ROUTE", h -> h.behind(0, 0), -1);
        edges.sentence("Returns the QUESTION at which it is then; NONE at the END.");
        Scene one = Scene.of(1, 1, 1).begin(0);
        edges.due(one, "answer(0, 0, 5), of one", h -> h.answer(0, 0, 5), -1);
        Scene two = Scene.of(2, 1, 1).begin(0);
        edges.due(two, "answer(0, 1, 5), of two", h -> h.answer(0, 1, 5), 1);
        edges.due(two.answer(0, 1, 5), "answer(0, 1, 5), at the last", h -> h.answer(0, 1, 5), -1);
        Scene ten = Scene.of(10, 1, 1).begin(0).answers(0, 5, 0, 1, 0, 1, 0, 1, 0, 1);
        edges.due(ten, "answer(0, 0, 5), at the last but one of ten", h -> h.answer(0, 0, 5), 9);
        edges.due(ten.answer(0, 0, 5), "answer(0, 0, 5), at the last of ten", h -> h.answer(0, 0, 5), -1);
    }

    private static void routeTo() {
        edges.sentence("to a QUESTION with a greater number, or to the END");
        Scene ten = questions(10);
        for (int q = 0; q < 10; q++) {
            for (int k = -1; k < 10; k++) {
                int from = q;
                int to = k;
                if (to == -1 || to > from) {
                    edges.due(ten.route(from, 1, to), "behind(" + from + ", 1) by a ROUTE", h -> h.behind(from, 1), to);
                }
            }
        }
        edges.sentence("Throws `IllegalArgumentException` if to is not NONE, and not above question");
        for (int q = 0; q < 10; q++) {
            int from = q;
            edges.refused(ten, "route to itself, " + q, h -> h.route(from, 0, from), Edges.ARGUMENT);
            edges.refused(ten, "route to 0, from " + q, h -> h.route(from, 0, 0), Edges.ARGUMENT);
            if (from > 0) {
                edges.refused(ten, "route to the one ahead, from " + q,
                        h -> h.route(from, 0, from - 1), Edges.ARGUMENT);
            }
        }
        edges.refused(questions(1), "route(0, 0, 0), the only one", h -> h.route(0, 0, 0), Edges.ARGUMENT);
        edges.due(questions(2), "route(0, 0, 1)", h -> h.route(0, 0, 1), 1);
    }

    private static void routeIndex() {
        edges.sentence("Throws `IndexOutOfBoundsException` if there is no such QUESTION, or ANSWER, or no such one to "
                + "go to (but NONE)");
        for (int count : new int[] {0, 1, 2, 9, 10}) {
            edges.bounds(questions(count), "route(#, 1, -1), of " + count, 0, count - 1, Edges.INDEX,
                    (h, n) -> h.route(n, 1, -1));
        }
        for (int count : new int[] {1, 2, 9, 10}) {
            for (int to : new int[] {LEAST, -2, count, count + 1, MOST}) {
                edges.refused(questions(count), "route(0, 1, " + to + "), of " + count,
                        h -> h.route(0, 1, to), Edges.INDEX);
            }
            edges.due(questions(count), "route(0, 1, -1), of " + count, h -> h.route(0, 1, -1), count == 1 ? -1 : 1);
        }
        for (int count : new int[] {2, 9, 10}) {
            edges.due(questions(count), "route to the last one, of " + count, h -> h.route(0, 1, count - 1), 1);
        }
        for (int q = 0; q < 4; q++) {
            int question = q;
            edges.bounds(questions(5), "route(" + q + ", #, 4)", 0, answersOf(q) - 1, Edges.INDEX,
                    (h, n) -> h.route(question, n, 4));
        }
        edges.refused(questions(3), "route(2, 0, 3), from the last one", h -> h.route(2, 0, 3), Edges.INDEX);
    }

    private static void routeState() {
        edges.sentence("Throws `IllegalStateException` if there was an INTERVIEW");
        Scene ready = Scene.of(2, 1, 1);
        edges.due(ready, "route(0, 0, -1), ahead of the first INTERVIEW", h -> h.route(0, 0, -1), 1);
        edges.due(ready, "rotate(2), ahead of the first INTERVIEW", h -> h.rotate(2), 0);
        for (int state = 0; state <= 3; state++) {
            Scene behind = Scene.inState(state);
            edges.refused(behind, "route(0, 0, -1), one in state " + state, h -> h.route(0, 0, -1), Edges.STATE);
            edges.refused(behind, "route(0, 0, 1), one in state " + state, h -> h.route(0, 0, 1), Edges.STATE);
            edges.refused(behind, "rotate(2), one in state " + state, h -> h.rotate(2), Edges.STATE);
            edges.refused(behind, "rotate(0), one in state " + state, h -> h.rotate(0), Edges.STATE);
        }
    }

    private static void routeOrder() {
        edges.sentence(ORDER);
        Scene open = questions(3);
        edges.refused(open, "route(1, 3, 0)", h -> h.route(1, 3, 0), Edges.INDEX);
        edges.refused(open, "route(1, -1, 1)", h -> h.route(1, -1, 1), Edges.INDEX);
        edges.refused(open, "route(3, 0, 0)", h -> h.route(3, 0, 0), Edges.INDEX);
        edges.refused(open, "route(1, 0, -2)", h -> h.route(1, 0, -2), Edges.INDEX);
        Scene closed = Scene.inState(0);
        edges.refused(closed, "route(2, 0, -1), closed", h -> h.route(2, 0, -1), Edges.INDEX);
        edges.refused(closed, "route(0, 2, -1), closed", h -> h.route(0, 2, -1), Edges.INDEX);
        edges.refused(closed, "route(0, 0, 2), closed", h -> h.route(0, 0, 2), Edges.INDEX);
        edges.refused(closed, "route(0, 0, -2), closed", h -> h.route(0, 0, -2), Edges.INDEX);
        edges.refused(closed, "route(1, 0, 1), closed", h -> h.route(1, 0, 1), Edges.ARGUMENT);
        edges.refused(closed, "route(0, 0, 0), closed", h -> h.route(0, 0, 0), Edges.ARGUMENT);
        edges.refused(closed, "route(1, 2, 0), closed", h -> h.route(1, 2, 0), Edges.INDEX);
    }

    private static void routeBefore() {
        edges.sentence("Returns where it would have gone so far.");
        Scene three = questions(3);
        edges.due(three, "route(0, 0, 2), no ROUTE yet", h -> h.route(0, 0, 2), 1);
        edges.due(three, "route(2, 0, -1), the last one", h -> h.route(2, 0, -1), -1);
        edges.due(three.route(0, 0, 2), "route(0, 0, -1)", h -> h.route(0, 0, -1), 2);
        edges.due(three.route(0, 0, -1), "route(0, 0, 1)", h -> h.route(0, 0, 1), -1);
        edges.due(three.route(0, 0, 2), "route(0, 1, 2), another ANSWER", h -> h.route(0, 1, 2), 1);
        edges.due(three.route(2, 0, -1).questions(2), "route(2, 0, 3), ROUTE to the END", h -> h.route(2, 0, 3), -1);
        edges.due(three.questions(2), "route(2, 0, 3), without it", h -> h.route(2, 0, 3), 3);
    }

    private static void rotations() {
        edges.sentence("A ROTATION, 0 to 3 (0 at first)");
        edges.due(Scene.empty(), "rotate(0), a new one", h -> h.rotate(0), 0);
        edges.due(questions(4), "rotate(3), a new one", h -> h.rotate(3), 0);
        for (int r = 0; r <= 3; r++) {
            edges.due(questions(4).rotate(r), "rotate(0) behind rotate(" + r + ")", h -> h.rotate(0), r);
        }
        edges.sentence("Throws `IllegalArgumentException` if rotation is not 0 to 3, or is more than there are "
                + "QUESTIONS");
        for (int count = 0; count <= 10; count++) {
            edges.bounds(questions(count), "rotate(#), of " + count, 0, Math.min(count, 3), Edges.ARGUMENT,
                    (h, n) -> h.rotate(n));
        }
        edges.sentence(ORDER);
        Scene closed = Scene.inState(1);
        edges.refused(closed, "rotate(3) of two, closed", h -> h.rotate(3), Edges.ARGUMENT);
        edges.refused(closed, "rotate(-1), closed", h -> h.rotate(-1), Edges.ARGUMENT);
        edges.refused(closed, "rotate(4), closed", h -> h.rotate(4), Edges.ARGUMENT);
    }

    /** The QUESTIONS that this INTERVIEW comes to with ANSWER 0, from its first one to the END. */
    private static void path(Scene begun, int interview, int... places) {
        Scene at = begun;
        edges.due(at, "ofInterview(" + interview + ", 2)", h -> h.ofInterview(interview, 2), places[0]);
        for (int k = 1; k < places.length; k++) {
            edges.due(at, "answer(" + interview + ", 0, 5) at " + places[k - 1],
                    h -> h.answer(interview, 0, 5), places[k]);
            at = at.answer(interview, 0, 5);
        }
    }

    private static Scene rotated(int questions, int rotation, int begun) {
        Scene scene = Scene.of(questions, 8, 9).rotate(rotation);
        for (int k = 0; k < begun; k++) {
            scene = scene.begin(k);
        }
        return scene;
    }

    private static void rotationTurns() {
        edges.sentence("beginning with the one whose number is what is left of the number of the INTERVIEW divided by "
                + "ROTATION, and going on with 0 behind the last one of them");
        int[][] threes = {{0, 1, 2, 3, 4, -1}, {1, 2, 0, 3, 4, -1}, {2, 0, 1, 3, 4, -1}};
        int[][] twos = {{0, 1, 2, 3, 4, -1}, {1, 0, 2, 3, 4, -1}};
        for (int i = 0; i < 7; i++) {
            path(rotated(5, 3, 7), i, threes[i % 3]);
            path(rotated(5, 2, 7), i, twos[i % 2]);
            path(rotated(5, 1, 7), i, 0, 1, 2, 3, 4, -1);
        }
        Scene last = Scene.of(3, 20, 9).rotate(3);
        for (int k = 0; k < 39; k++) {
            last = last.interview(k % 20, 1, 0, 0, 0).clean();
        }
        path(last.begin(19), 39, 0, 1, 2, -1);
        Scene two = Scene.of(2, 20, 9).rotate(2);
        for (int k = 0; k < 39; k++) {
            two = two.interview(k % 20, 1, 0, 0).clean();
        }
        path(two.begin(19), 39, 1, 0, -1);
        edges.sentence("(With ROTATION 0 it begins with the QUESTION 0.)");
        for (int i = 0; i < 4; i++) {
            path(rotated(3, 0, 4), i, 0, 1, 2, -1);
        }
    }

    private static void rotationEnds() {
        edges.sentence("then it goes on with the QUESTION that has ROTATION as its number (END, if there is none)");
        path(rotated(1, 1, 1), 0, 0, -1);
        path(rotated(2, 1, 2), 1, 0, 1, -1);
        path(rotated(2, 2, 2), 1, 1, 0, -1);
        path(rotated(3, 2, 2), 1, 1, 0, 2, -1);
        path(rotated(3, 3, 3), 2, 2, 0, 1, -1);
        path(rotated(4, 3, 3), 2, 2, 0, 1, 3, -1);
        path(rotated(10, 3, 2), 1, 1, 2, 0, 3, 4, 5, 6, 7, 8, 9, -1);
        edges.sentence("so many first QUESTIONS are asked first, without their ROUTES");
        Scene five = Scene.of(5, 4, 9).route(0, 0, -1).route(1, 0, 4).route(2, 0, -1).route(3, 0, -1);
        path(five.rotate(3).begin(0), 0, 0, 1, 2, 3, -1);
        path(five.rotate(3).begin(0).begin(1), 1, 1, 2, 0, 3, -1);
        path(five.rotate(2).begin(0), 0, 0, 1, 2, -1);
        path(five.rotate(1).begin(0), 0, 0, 1, 4, -1);
        path(five.rotate(0).begin(0), 0, 0, -1);
    }

    private static void behindIndex() {
        edges.sentence("Returns the QUESTION with which it goes on by ROUTES (ROTATION aside); NONE for the END.");
        edges.asks(questions(3).rotate(3), "behind(0, 0), ROTATION 3", h -> h.behind(0, 0), 1);
        edges.asks(questions(3).rotate(3).route(0, 0, -1), "behind(0, 0), ROTATION 3", h -> h.behind(0, 0), -1);
        edges.asks(questions(3).rotate(3), "behind(2, 0), ROTATION 3", h -> h.behind(2, 0), -1);
        edges.sentence("Throws `IndexOutOfBoundsException` if there is no such QUESTION, or ANSWER");
        for (int count : new int[] {0, 1, 2, 9, 10}) {
            edges.bounds(questions(count), "behind(#, 0), of " + count, 0, count - 1, Edges.INDEX,
                    (h, n) -> h.behind(n, 0));
            edges.bounds(questions(count), "behind(#, 1), of " + count, 0, count - 1, Edges.INDEX,
                    (h, n) -> h.behind(n, 1));
        }
        for (int q = 0; q < 10; q++) {
            int question = q;
            edges.bounds(questions(10), "behind(" + q + ", #)", 0, answersOf(q) - 1, Edges.INDEX,
                    (h, n) -> h.behind(question, n));
        }
        edges.refused(questions(2), "behind of nothing", h -> h.behind(MOST, MOST), Edges.INDEX);
        edges.refused(questions(2), "behind of nothing", h -> h.behind(LEAST, LEAST), Edges.INDEX);
        edges.refused(questions(2), "behind(-1, 5)", h -> h.behind(-1, 5), Edges.INDEX);
    }

    private static void shortest() {
        edges.sentence("Returns with how many ANSWERS at least one comes from there to the END (with it; ROTATION "
                + "aside).");
        for (int count = 1; count <= 10; count++) {
            for (int q = 0; q < count; q++) {
                int question = q;
                edges.due(questions(count), "shortest(" + q + "), of " + count, h -> h.shortest(question), count - q);
            }
        }
        Scene ten = questions(10);
        edges.asks(ten.route(0, 1, -1), "shortest(0), ROUTE to the END", h -> h.shortest(0), 1);
        edges.asks(ten.route(0, 1, 9), "shortest(0), ROUTE to the last one", h -> h.shortest(0), 2);
        edges.asks(ten.route(8, 0, 9).route(8, 1, -1), "shortest(0)", h -> h.shortest(0), 9);
        edges.asks(ten.route(0, 0, 9).route(0, 1, 9).rotate(3), "shortest(0), ROTATION 3", h -> h.shortest(0), 2);
        edges.asks(ten.route(3, 4, -1), "shortest(3), by the last of 5 ANSWERS", h -> h.shortest(3), 1);
        edges.asks(ten.route(0, 0, 5).route(1, 0, 9), "shortest(0), by the other way", h -> h.shortest(0), 3);
        edges.asks(ten.route(0, 0, 2).route(0, 1, 2).route(1, 0, -1), "shortest(0), past a short one",
                h -> h.shortest(0), 9);
        Scene wide = Scene.empty().questions(5, 5, 5, 5, 5, 5, 5, 5, 5, 5);
        for (int k = 0; k < 5; k++) {
            wide = wide.route(0, k, 2);
        }
        edges.asks(wide.route(1, 0, -1), "shortest(0), of 5 ANSWERS, past a short one", h -> h.shortest(0), 9);
        edges.asks(wide.route(1, 0, -1), "shortest(9), of 5 ANSWERS", h -> h.shortest(9), 1);
        edges.sentence("Throws `IndexOutOfBoundsException` if there is no such QUESTION");
        for (int count : new int[] {0, 1, 2, 9, 10}) {
            edges.bounds(questions(count), "shortest(#), of " + count, 0, count - 1, Edges.INDEX,
                    (h, n) -> h.shortest(n));
        }
    }

    public static void main(String[] args) {
        newObject();
        allItsCalls();
        atFirst();
        tenQuestions();
        twoToFiveAnswers();
        endBehindTheLast();
        routeTo();
        routeIndex();
        routeState();
        routeOrder();
        routeBefore();
        rotations();
        rotationTurns();
        rotationEnds();
        behindIndex();
        shortest();
        edges.end();
    }
}
