import java.util.Arrays;

/** The edges of the third part of "Terms", and of promises 13 to 18 and 26. */
public final class InterviewsEdgesTest {
    private static final Edges edges = new Edges("InterviewsEdgesTest");
    private static final int LEAST = Integer.MIN_VALUE;
    private static final int MOST = Integer.MAX_VALUE;
    private static final int[] STATES = {0, 1, 2, 3};
    private static final String ORDER = "If several exceptions apply, the one that is named first is thrown.";

    /** So many INTERVIEWS, each CLEANED at once, of 20 PEOPLE who take turns; then two DAYS without one. */
    private static Scene cleaned(int count) {
        Scene scene = Scene.of(1, 20, 9);
        for (int k = 0; k < count; k++) {
            scene = scene.interview(k % 20, 1, 0).clean();
        }
        return scene.days(2);
    }

    /** The same, but each is OUT. */
    private static Scene out(int count) {
        Scene scene = Scene.of(1, 20, 9);
        for (int k = 0; k < count; k++) {
            scene = scene.begin(k % 20).target(0, 0, 0).answer(k, 0, 5).target(0, 0, 9);
        }
        return scene.days(2);
    }

    private static void fortyInterviews() {
        edges.sentence("INTERVIEWS: at most 40, numbered from 0, each with a PERSON");
        for (int k = 0; k < 40; k++) {
            edges.due(cleaned(k), "begin(19), with " + k, h -> h.begin(19), k);
        }
        edges.due(cleaned(40), "ofInterview(39, 0)", h -> h.ofInterview(39, 0), 19);
        edges.due(cleaned(40), "ofInterview(20, 0)", h -> h.ofInterview(20, 0), 0);
        edges.due(cleaned(40), "ofInterview(0, 0)", h -> h.ofInterview(0, 0), 0);
        edges.sentence("Throws `IllegalStateException` if it cannot be ASKED, there are no QUESTIONS, or there were "
                + "40");
        edges.due(out(39), "begin(0), with 39 that are OUT", h -> h.begin(0), 39);
        edges.due(cleaned(40), "ofPerson(0, 4), with 40", h -> h.ofPerson(0, 4), 1);
        edges.refused(cleaned(40), "begin(0), with 40 that are CLEANED", h -> h.begin(0), Edges.STATE);
        edges.due(out(40), "next(), with 40", h -> h.next(), 0);
        edges.refused(out(40), "begin(0), with 40 that are OUT", h -> h.begin(0), Edges.STATE);
        edges.refused(Scene.full().days(9), "begin(20), in a full house", h -> h.begin(20), Edges.STATE);
    }

    private static void noQuestions() {
        edges.due(Scene.of(0, 1, 1), "ofPerson(0, 4), without QUESTIONS", h -> h.ofPerson(0, 4), 1);
        edges.refused(Scene.of(0, 1, 1), "begin(0), without QUESTIONS", h -> h.begin(0), Edges.STATE);
        edges.due(Scene.of(1, 1, 1), "begin(0), with one", h -> h.begin(0), 0);
        edges.due(Scene.of(10, 1, 1), "begin(0), with ten", h -> h.begin(0), 0);
    }

    private static void cannotBeAsked() {
        boolean[] taken = {false, false, true, true};
        for (int state : STATES) {
            Scene scene = Scene.inState(state).target(0, 0, 2);
            if (taken[state]) {
                edges.due(scene, "begin(0), one in state " + state, h -> h.begin(0), 1);
            } else {
                edges.refused(scene, "begin(0), one in state " + state, h -> h.begin(0), Edges.STATE);
            }
        }
        edges.refused(Scene.of(1, 1, 0), "begin(0), TARGET 0", h -> h.begin(0), Edges.STATE);
        edges.refused(Scene.of(1, 2, 1).interview(0, 5, 0), "begin(1), FILLED 1 of 1", h -> h.begin(1), Edges.STATE);
        edges.due(Scene.of(1, 2, 2).interview(0, 5, 0), "begin(1), FILLED 1 of 2", h -> h.begin(1), 1);
        edges.due(Scene.of(1, 2, 1).begin(0), "begin(1), one is RUNNING", h -> h.begin(1), 1);
    }

    private static void beginIndex() {
        edges.sentence("Throws `IndexOutOfBoundsException` if there is no such PERSON");
        for (int count : new int[] {0, 1, 23, 24}) {
            edges.bounds(Scene.of(1, count, 9), "begin(#), of " + count, 0, count - 1, Edges.INDEX,
                    (h, n) -> h.begin(n));
        }
        edges.sentence(ORDER);
        edges.refused(Scene.of(0, 1, 0), "begin(1), without QUESTIONS", h -> h.begin(1), Edges.INDEX);
        edges.refused(cleaned(40), "begin(20), with 40", h -> h.begin(20), Edges.INDEX);
        edges.refused(cleaned(40), "begin(-1), with 40", h -> h.begin(-1), Edges.INDEX);
    }

    private static void fatigue() {
        edges.sentence("As a PERSON is ASKED, its FATIGUE is 2 more (9 at most), and an INTERVIEW is RUNNING, at its "
                + "first QUESTION.");
        Scene scene = Scene.of(1, 2, 2);
        for (int fatigue = 0; fatigue <= 4; fatigue += 2) {
            int before = fatigue;
            edges.due(scene, "ofPerson(0, 2)", h -> h.ofPerson(0, 2), before);
            edges.due(scene.begin(0), "ofPerson(0, 2), ASKED", h -> h.ofPerson(0, 2), before + 2);
            edges.due(scene.begin(0), "ofPerson(1, 2), not ASKED", h -> h.ofPerson(1, 2), 0);
            edges.due(scene.begin(0), "ofInterview(" + fatigue / 2 + ", 1)", h -> h.ofInterview(before / 2, 1), 0);
            edges.due(scene.begin(0), "ofInterview(" + fatigue / 2 + ", 2)", h -> h.ofInterview(before / 2, 2), 0);
            scene = scene.interview(0, 1, 0).clean();
        }
        edges.due(scene, "ofPerson(0, 2), the most that there can be", h -> h.ofPerson(0, 2), 6);
        edges.due(Scene.of(1, 1, 1).interview(0, 1, 0).clean().days(1).begin(0), "ofPerson(0, 2), 1 and 2 more",
                h -> h.ofPerson(0, 2), 3);
    }

    private static void seconds() {
        edges.sentence("Each ANSWER takes SECONDS, 1 to 99.");
        Scene two = Scene.of(2, 1, 1).begin(0);
        for (int s : new int[] {1, 2, 98, 99}) {
            edges.due(two.answer(0, 0, s), "ofInterview(0, 4)", h -> h.ofInterview(0, 4), s);
        }
        edges.due(two.answers(0, 99, 0, 1), "ofInterview(0, 4)", h -> h.ofInterview(0, 4), 198);
        edges.sentence("Throws `IllegalArgumentException` if that QUESTION has no such ANSWER, or seconds is not 1 to "
                + "99");
        edges.bounds(two, "answer(0, 0, #)", 1, 99, Edges.ARGUMENT, (h, n) -> h.answer(0, 0, n));
        edges.bounds(two.answer(0, 0, 5), "answer(0, 0, #), at the last", 1, 99, Edges.ARGUMENT,
                (h, n) -> h.answer(0, 0, n));
        edges.refused(two, "answer(0, 0, 0)", h -> h.answer(0, 0, 0), Edges.ARGUMENT);
        Scene many = Scene.empty().questions(2, 5, 3, 4).people(0, 0, 1).target(0, 0, 1).begin(0);
        int[] counts = {2, 5, 3, 4};
        for (int q = 0; q < counts.length; q++) {
            edges.bounds(many, "answer(0, #, 5), at QUESTION " + q, 0, counts[q] - 1, Edges.ARGUMENT,
                    (h, n) -> h.answer(0, n, 5));
            many = many.answer(0, counts[q] - 1, 5);
        }
        edges.due(many, "ofInterview(0, 1)", h -> h.ofInterview(0, 1), 1);
        Scene turned = Scene.empty().questions(2, 5).people(0, 0, 2).target(0, 0, 2).rotate(2).begin(0).begin(1);
        edges.bounds(turned, "answer(1, #, 5), at QUESTION 1 first", 0, 4, Edges.ARGUMENT, (h, n) -> h.answer(1, n, 5));
        edges.bounds(turned.answer(1, 4, 5), "answer(1, #, 5), then at 0", 0, 1, Edges.ARGUMENT,
                (h, n) -> h.answer(1, n, 5));
    }

    private static void answerIndex() {
        edges.sentence("Throws `IndexOutOfBoundsException` if there is no such INTERVIEW");
        edges.bounds(Scene.of(2, 1, 1), "answer(#, 0, 5), of none", 0, -1, Edges.INDEX, (h, n) -> h.answer(n, 0, 5));
        edges.bounds(Scene.of(2, 1, 1).begin(0), "answer(#, 0, 5), of one", 0, 0, Edges.INDEX,
                (h, n) -> h.answer(n, 0, 5));
        Scene all = Scene.of(2, 24, 9);
        for (int k = 0; k < 24; k++) {
            all = all.begin(k);
        }
        edges.bounds(all, "answer(#, 0, 5), of 24", 0, 23, Edges.INDEX, (h, n) -> h.answer(n, 0, 5));
        edges.due(Scene.full(), "answer(39, 0, 5), of 40", h -> h.answer(39, 0, 5), 1);
        edges.refused(Scene.full(), "answer(40, 0, 5), of 40", h -> h.answer(40, 0, 5), Edges.INDEX);
        edges.sentence("Throws `IllegalStateException` if it is not RUNNING");
        for (int state = 1; state <= 3; state++) {
            edges.refused(Scene.inState(state), "answer(0, 0, 5), in state " + state,
                    h -> h.answer(0, 0, 5), Edges.STATE);
        }
        edges.due(Scene.inState(0), "answer(0, 0, 5), RUNNING", h -> h.answer(0, 0, 5), 1);
        edges.sentence(ORDER);
        for (int state : STATES) {
            edges.refused(Scene.inState(state), "answer(1, 2, 0)", h -> h.answer(1, 2, 0), Edges.INDEX);
            edges.refused(Scene.inState(state), "answer(-1, -1, 100)", h -> h.answer(-1, -1, 100), Edges.INDEX);
            if (state > 0) {
                edges.refused(Scene.inState(state), "answer(0, 2, 5)", h -> h.answer(0, 2, 5), Edges.STATE);
                edges.refused(Scene.inState(state), "answer(0, -1, 5)", h -> h.answer(0, -1, 5), Edges.STATE);
                edges.refused(Scene.inState(state), "answer(0, 0, 0)", h -> h.answer(0, 0, 0), Edges.STATE);
                edges.refused(Scene.inState(state), "answer(0, 0, 100)", h -> h.answer(0, 0, 100), Edges.STATE);
            }
        }
        edges.refused(Scene.inState(0), "answer(0, 2, 0), RUNNING", h -> h.answer(0, 2, 0), Edges.ARGUMENT);
        edges.refused(Scene.inState(0), "answer of nothing", h -> h.answer(MOST, MOST, MOST), Edges.INDEX);
        edges.refused(Scene.inState(0), "answer of nothing", h -> h.answer(LEAST, LEAST, LEAST), Edges.INDEX);
        edges.refused(Scene.inState(0), "answer(0, MAX, MAX)", h -> h.answer(0, MOST, MOST), Edges.ARGUMENT);
    }

    private static void atTheEnd() {
        edges.sentence("At the END it is COMPLETE, if the CELL is OPEN then, and the PERSON gets 10 POINTS; otherwise "
                + "OUT, and the PERSON gets 2.");
        Scene two = Scene.of(1, 3, 2).begin(0).begin(1).begin(2);
        Scene one = two.answer(0, 0, 5);
        ended("FILLED 0 of 2", one, 0, 1);
        ended("FILLED 1 of 2", one.answer(1, 0, 5), 1, 1);
        ended("FILLED 2 of 2", one.answer(1, 0, 5).answer(2, 0, 5), 2, 2);
        ended("FILLED 1 of 1", one.target(0, 0, 1).answer(1, 0, 5), 1, 2);
        ended("FILLED 2, of 3 then", one.answer(1, 0, 5).target(0, 0, 3).answer(2, 0, 5), 2, 1);
        ended("FILLED 2, one is CLEANED", two.answer(0, 0, 1).answer(1, 0, 5).clean().answer(2, 0, 5), 2, 1);
        ended("FILLED 2 of 2, SOFT 1, all FILLED", one.answer(1, 0, 5).soft(1).answer(2, 0, 5), 2, 2);
        ended("FILLED 2 of 2, SOFT 1", one.answer(1, 0, 5).soft(1).target(2, 1, 1).answer(2, 0, 5), 2, 1);
        Scene again = two.target(0, 0, 0).answer(2, 0, 5).target(0, 0, 2).interview(2, 5, 0);
        edges.due(again, "ofPerson(2, 3), OUT and then COMPLETE", h -> h.ofPerson(2, 3), 12);
        edges.due(two, "ofPerson(0, 3), ahead of the END", h -> h.ofPerson(0, 3), 0);
        edges.due(Scene.inState(0).answer(0, 0, 5), "ofInterview(0, 1), at the last QUESTION",
                h -> h.ofInterview(0, 1), 0);
    }

    private static void ended(String why, Scene scene, int interview, int state) {
        edges.due(scene, why + ": ofInterview(" + interview + ", 1)", h -> h.ofInterview(interview, 1), state);
        edges.due(scene, why + ": ofInterview(" + interview + ", 2)", h -> h.ofInterview(interview, 2), -1);
        edges.due(scene, why + ": ofPerson(" + interview + ", 3)", h -> h.ofPerson(interview, 3), state == 1 ? 10 : 2);
    }

    /** One INTERVIEW of so many ANSWERS, 0 and 1 in turn, the first one in these SECONDS, the others in 3 each. */
    private static Scene paced(int answers, int firstSeconds) {
        Scene scene = Scene.of(answers, 1, 1).begin(0).answer(0, 0, firstSeconds);
        for (int k = 1; k < answers; k++) {
            scene = scene.answer(0, k % 2, 3);
        }
        return scene;
    }

    private static void toClean(String why, Scene scene, int due) {
        edges.asks(scene, why + ": ofInterview(0, 6)", h -> h.ofInterview(0, 6), due);
        edges.asks(scene, why + ": cleaned()", h -> h.cleaned(), due == 1 ? 101 : 0);
        edges.due(scene, why + ": clean()", h -> h.clean(), due);
        edges.due(scene.clean(), why + ": ofInterview(0, 1)", h -> h.ofInterview(0, 1), due == 1 ? 3 : 1);
        edges.due(scene.clean(), why + ": ofPerson(0, 3)", h -> h.ofPerson(0, 3), due == 1 ? 0 : 10);
        edges.due(scene.clean(), why + ": ofCell(0, 0, 1)", h -> h.ofCell(0, 0, 1), due == 1 ? 0 : 1);
        edges.due(scene.clean(), why + ": clean() again", h -> h.clean(), 0);
    }

    private static void tooFast() {
        edges.sentence("(all SECONDS together less than 3 times as many as it has ANSWERS)");
        for (int count = 1; count <= 10; count++) {
            toClean(count + " ANSWERS in " + (3 * count - 1) + " SECONDS", paced(count, 2), 1);
            toClean(count + " ANSWERS in " + 3 * count + " SECONDS", paced(count, 3), 0);
        }
        toClean("1 and 4 SECONDS", Scene.of(2, 1, 1).interview(0, 1, 0).answer(0, 1, 4), 1);
        toClean("1 and 5 SECONDS", Scene.of(2, 1, 1).interview(0, 1, 0).answer(0, 1, 5), 0);
        toClean("99 and 1 SECONDS", Scene.of(2, 1, 1).interview(0, 99, 0).answer(0, 1, 1), 0);
        toClean("1 SECOND", Scene.of(1, 1, 1).interview(0, 1, 1), 1);
        toClean("99 SECONDS", Scene.of(1, 1, 1).interview(0, 99, 1), 0);
    }

    private static Scene said(int... answers) {
        Scene scene = Scene.empty().people(0, 0, 1).target(0, 0, 1);
        for (int k = 0; k < answers.length; k++) {
            scene = scene.questions(5);
        }
        return scene.interview(0, 9, answers);
    }

    private static void straightLine() {
        edges.sentence("or has 4 ANSWERS or more, all with the same number, is CLEANED");
        for (int answer = 0; answer <= 4; answer++) {
            int[] line = new int[10];
            Arrays.fill(line, answer);
            for (int count = 1; count <= 10; count++) {
                toClean(count + " times " + answer, said(Arrays.copyOf(line, count)), count >= 4 ? 1 : 0);
            }
            for (int at = 0; at < 4; at++) {
                int[] other = Arrays.copyOf(line, 4);
                other[at] = (answer + 1) % 5;
                toClean("4 ANSWERS, another at " + at, said(other), 0);
            }
        }
        toClean("10, another at the last", said(2, 2, 2, 2, 2, 2, 2, 2, 2, 0), 0);
        toClean("10, another at the first", said(0, 2, 2, 2, 2, 2, 2, 2, 2, 2), 0);
        Scene passed = Scene.of(6, 1, 1).route(0, 1, 2).route(3, 1, 5);
        toClean("4 of 6 QUESTIONS", passed.interview(0, 9, 1, 1, 1, 1), 1);
        toClean("3 of 6 QUESTIONS", passed.route(2, 1, 5).interview(0, 9, 1, 1, 1), 0);
        Scene turned = Scene.of(4, 1, 1).rotate(3);
        toClean("4 by ROTATION", turned.interview(0, 9, 1, 1, 1, 1), 1);
        toClean("4 by ROTATION, another behind it", turned.interview(0, 9, 1, 1, 1, 0), 0);
        Scene two = Scene.of(4, 2, 2).interview(0, 9, 1, 1, 1, 1).interview(1, 9, 0, 0, 0, 1);
        edges.asks(two, "a line ahead of another INTERVIEW: ofInterview(0, 6)", h -> h.ofInterview(0, 6), 1);
        edges.asks(two, "behind a line: ofInterview(1, 6)", h -> h.ofInterview(1, 6), 0);
        edges.due(two, "clean()", h -> h.clean(), 1);
        toClean("a line, and fast", Scene.of(4, 1, 1).interview(0, 1, 1, 1, 1, 1), 1);
    }

    /** Four QUESTIONS; of 39 INTERVIEWS each is a line, and CLEANED. */
    private static void lastOfForty() {
        Scene scene = Scene.of(4, 20, 9);
        for (int k = 0; k < 39; k++) {
            scene = scene.interview(k % 20, 9, 1, 1, 1, 1).clean();
        }
        edges.due(scene.interview(19, 9, 1, 1, 1, 1), "ofInterview(39, 6), a line", h -> h.ofInterview(39, 6), 1);
        edges.due(scene.interview(19, 9, 1, 1, 1, 1), "clean(), a line", h -> h.clean(), 1);
        edges.due(scene.interview(19, 9, 1, 1, 1, 0), "ofInterview(39, 6), no line", h -> h.ofInterview(39, 6), 0);
        edges.due(scene.interview(19, 9, 1, 1, 1, 0), "clean(), no line", h -> h.clean(), 0);
    }

    private static void completeAlone() {
        edges.sentence("each INTERVIEW that is COMPLETE, and either took less than 3 SECONDS for each ANSWER");
        Scene running = Scene.of(5, 1, 1).interview(0, 1, 0, 0, 0, 0);
        edges.due(running, "ofInterview(0, 6), RUNNING", h -> h.ofInterview(0, 6), 0);
        edges.due(running, "cleaned(), RUNNING", h -> h.cleaned(), 0);
        edges.due(running, "clean(), RUNNING", h -> h.clean(), 0);
        edges.due(running.answer(0, 0, 1), "clean(), COMPLETE", h -> h.clean(), 1);
        Scene out = running.target(0, 0, 0).answer(0, 0, 1);
        edges.due(out, "ofInterview(0, 6), OUT", h -> h.ofInterview(0, 6), 0);
        edges.due(out, "cleaned(), OUT", h -> h.cleaned(), 0);
        edges.due(out, "clean(), OUT", h -> h.clean(), 0);
        edges.due(out.clean(), "ofPerson(0, 3), OUT", h -> h.ofPerson(0, 3), 2);
        Scene cleaned = running.answer(0, 0, 1).clean();
        edges.due(cleaned, "ofInterview(0, 6), CLEANED", h -> h.ofInterview(0, 6), 0);
        edges.due(cleaned, "cleaned(), CLEANED", h -> h.cleaned(), 0);
        edges.due(cleaned.clean(), "ofPerson(0, 3), CLEANED but once", h -> h.ofPerson(0, 3), 0);
        edges.due(cleaned.clean(), "ofCell(0, 0, 1), CLEANED but once", h -> h.ofCell(0, 0, 1), 0);
        edges.sentence("the PERSON has 10 POINTS less");
        Scene mixed = Scene.of(1, 2, 2).begin(0).target(0, 0, 0).answer(0, 0, 5).target(0, 0, 2)
                .interview(0, 1, 0).interview(1, 5, 0);
        edges.due(mixed, "ofPerson(0, 3)", h -> h.ofPerson(0, 3), 12);
        edges.due(mixed.clean(), "ofPerson(0, 3), CLEANED", h -> h.ofPerson(0, 3), 2);
        edges.due(mixed.clean(), "ofPerson(1, 3), not CLEANED", h -> h.ofPerson(1, 3), 10);
    }

    private static void howManyCleaned() {
        edges.sentence("Returns how many INTERVIEWS are CLEANED by that.");
        edges.due(Scene.empty(), "clean(), a new one", h -> h.clean(), 0);
        Scene scene = Scene.empty().questions(2).everywhere(9);
        for (int k = 0; k < 24; k++) {
            scene = scene.people(k % 3, k % 2, 1);
        }
        for (int k = 0; k < 24; k++) {
            scene = scene.interview(k, 2, 0);
            int count = k + 1;
            edges.due(scene, "clean(), " + count + " too fast", h -> h.clean(), count);
        }
        edges.due(scene.clean(), "many(3)", h -> h.many(3), 0);
        edges.due(scene.clean(), "many(5)", h -> h.many(5), 24);
        edges.due(scene.clean(), "many(9)", h -> h.many(9), 0);
        edges.due(scene.clean(), "clean() again", h -> h.clean(), 0);
        edges.due(Scene.full(), "clean(), in a full house", h -> h.clean(), 0);
    }

    private static void ofInterviews() {
        edges.sentence("Throws `IndexOutOfBoundsException` if there is no such INTERVIEW");
        edges.bounds(Scene.of(1, 1, 1), "ofInterview(#, 1), of none", 0, -1, Edges.INDEX,
                (h, n) -> h.ofInterview(n, 1));
        edges.bounds(Scene.inState(3), "ofInterview(#, 1), of one", 0, 0, Edges.INDEX, (h, n) -> h.ofInterview(n, 1));
        edges.bounds(Scene.full(), "ofInterview(#, 1), of 40", 0, 39, Edges.INDEX, (h, n) -> h.ofInterview(n, 1));
        edges.sentence("Throws `IllegalArgumentException` if what is not 0 to 6");
        for (int state : STATES) {
            edges.bounds(Scene.inState(state), "ofInterview(0, #)", 0, 6, Edges.ARGUMENT,
                    (h, n) -> h.ofInterview(0, n));
        }
        edges.sentence(ORDER);
        edges.refused(Scene.inState(1), "ofInterview(1, 7)", h -> h.ofInterview(1, 7), Edges.INDEX);
        edges.refused(Scene.inState(1), "ofInterview(-1, -1)", h -> h.ofInterview(-1, -1), Edges.INDEX);
        edges.sentence("RUNNING (0), COMPLETE (1), OUT (2), or CLEANED (3)");
        for (int state : STATES) {
            edges.asks(Scene.inState(state), "ofInterview(0, 1)", h -> h.ofInterview(0, 1), state);
        }
        edges.sentence("2 the QUESTION at which it is (NONE, if it is not RUNNING)");
        for (int state : STATES) {
            edges.asks(Scene.inState(state), "ofInterview(0, 2), in state " + state,
                    h -> h.ofInterview(0, 2), state == 0 ? 0 : -1);
        }
        edges.asks(Scene.inState(0).answer(0, 0, 5), "ofInterview(0, 2), at the last", h -> h.ofInterview(0, 2), 1);
        edges.sentence("5 its WEIGHT (0, if it is not COMPLETE)");
        for (int state : STATES) {
            edges.asks(Scene.inState(state), "ofInterview(0, 5), in state " + state,
                    h -> h.ofInterview(0, 5), state == 1 ? 1000 : 0);
        }
        edges.sentence("3 how many ANSWERS it has, 4 all its SECONDS");
        Scene ten = Scene.of(10, 1, 1).begin(0);
        for (int k = 0; k <= 10; k++) {
            int count = k;
            edges.asks(ten, "ofInterview(0, 3)", h -> h.ofInterview(0, 3), count);
            edges.asks(ten, "ofInterview(0, 4)", h -> h.ofInterview(0, 4), 99 * count);
            ten = k < 10 ? ten.answer(0, k % 2, 99) : ten;
        }
    }

    private static void given() {
        edges.sentence("Throws `IndexOutOfBoundsException` if there is no such INTERVIEW, or QUESTION");
        edges.bounds(Scene.of(1, 1, 1), "given(#, 0), of none", 0, -1, Edges.INDEX, (h, n) -> h.given(n, 0));
        edges.bounds(Scene.inState(0), "given(#, 0), of one", 0, 0, Edges.INDEX, (h, n) -> h.given(n, 0));
        edges.bounds(Scene.inState(0), "given(0, #), of two QUESTIONS", 0, 1, Edges.INDEX, (h, n) -> h.given(0, n));
        edges.bounds(Scene.full(), "given(#, 9), of 40", 0, 39, Edges.INDEX, (h, n) -> h.given(n, 9));
        edges.bounds(Scene.full(), "given(39, #), of ten QUESTIONS", 0, 9, Edges.INDEX, (h, n) -> h.given(39, n));
        edges.refused(Scene.inState(0), "given of nothing", h -> h.given(MOST, MOST), Edges.INDEX);
        edges.sentence("Returns the ANSWER that was given; NONE without one.");
        Scene passing = Scene.empty().questions(5, 2, 2).route(0, 4, 2).people(0, 0, 1).target(0, 0, 1).begin(0);
        edges.asks(passing, "given(0, 0), not yet", h -> h.given(0, 0), -1);
        edges.asks(passing.answer(0, 0, 9), "given(0, 0), the first one", h -> h.given(0, 0), 0);
        edges.asks(passing.answer(0, 4, 9), "given(0, 0), the last one", h -> h.given(0, 0), 4);
        edges.asks(passing.answers(0, 9, 4, 1), "given(0, 1), passed by", h -> h.given(0, 1), -1);
        edges.asks(passing.answers(0, 9, 4, 1), "given(0, 2)", h -> h.given(0, 2), 1);
        edges.asks(passing.answers(0, 1, 4, 1).clean(), "given(0, 2), CLEANED", h -> h.given(0, 2), 1);
        edges.asks(Scene.inState(2), "given(0, 1), OUT", h -> h.given(0, 1), 1);
    }

    private static void many() {
        edges.sentence("Throws `IllegalArgumentException` if what is not 0 to 11");
        edges.bounds(Scene.empty(), "many(#)", 0, 11, Edges.ARGUMENT, (h, n) -> h.many(n));
        edges.bounds(Scene.full(), "many(#)", 0, 11, Edges.ARGUMENT, (h, n) -> h.many(n));
        edges.sentence("0 QUESTIONS, 1 PEOPLE, 2 to 5 INTERVIEWS that are RUNNING, COMPLETE, OUT, CLEANED, "
                + "6 all TARGETS, 7 CELLS that are OPEN, 8 PEOPLE who can be ASKED, 9 POINTS of all, 10 reports, "
                + "11 the DAY");
        int[] full = {10, 24, 2, 20, 2, 16, 54, 6, 2, 204, 5, 0};
        for (int k = 0; k <= 11; k++) {
            int what = k;
            edges.asks(Scene.empty(), "many(" + what + "), a new one", h -> h.many(what), 0);
            edges.asks(Scene.full(), "many(" + what + "), a full one", h -> h.many(what), full[what]);
        }
        for (int s : STATES) {
            int[] due = {2, 1, 0, 0, 0, 0, 1, s == 1 ? 0 : 1, s >= 2 ? 1 : 0, s == 1 ? 10 : s == 2 ? 2 : 0, 0, 0};
            due[2 + s] = 1;
            for (int k = 0; k <= 11; k++) {
                int what = k;
                edges.asks(Scene.inState(s), "many(" + what + "), one in state " + s, h -> h.many(what), due[what]);
            }
        }
        edges.asks(Scene.of(1, 24, 9), "many(8), all 24", h -> h.many(8), 24);
        edges.asks(Scene.of(1, 24, 0), "many(8), none of 24", h -> h.many(8), 0);
    }

    /** So many fast ones, and so many good ones, all COMPLETE, in the CELL 0 0, with that TARGET then. */
    private static Scene mixture(int fast, int good, int target) {
        Scene scene = Scene.of(1, fast + good, 9);
        for (int k = 0; k < fast + good; k++) {
            scene = scene.interview(k, k < fast ? 1 : 9, 0);
        }
        return scene.target(0, 0, target);
    }

    private static void wouldBeCleaned() {
        edges.sentence("Returns how many INTERVIEWS clean() would CLEAN, and, added to that, 100 for each CELL that "
                + "would be OPEN then and is not.");
        edges.asks(Scene.empty(), "cleaned(), a new one", h -> h.cleaned(), 0);
        edges.asks(mixture(0, 3, 3), "none of 3, TARGET 3", h -> h.cleaned(), 0);
        edges.asks(mixture(1, 2, 3), "1 of 3, TARGET 3", h -> h.cleaned(), 101);
        edges.asks(mixture(3, 0, 3), "3 of 3, TARGET 3", h -> h.cleaned(), 103);
        edges.asks(mixture(1, 2, 4), "1 of 3, OPEN already", h -> h.cleaned(), 1);
        edges.asks(mixture(1, 2, 2), "1 of 3, TARGET 2", h -> h.cleaned(), 1);
        edges.asks(mixture(2, 1, 2), "2 of 3, TARGET 2", h -> h.cleaned(), 102);
        edges.asks(mixture(3, 0, 0), "3 of 3, TARGET 0", h -> h.cleaned(), 3);
        edges.asks(mixture(3, 0, 1), "3 of 3, TARGET 1", h -> h.cleaned(), 103);
        edges.asks(mixture(9, 0, 9), "9 of 9", h -> h.cleaned(), 109);
        edges.sentence("It is OPEN, too, if it is FILLED less than the sum of its TARGET and SOFT, and all CELLS "
                + "together are FILLED less than all their TARGETS together.");
        edges.asks(mixture(1, 2, 3).soft(1), "1 of 3, TARGET 3, SOFT 1", h -> h.cleaned(), 601);
        edges.asks(mixture(1, 2, 2).soft(1), "1 of 3, TARGET 2, SOFT 1", h -> h.cleaned(), 1);
        edges.asks(mixture(1, 2, 2).soft(2), "1 of 3, TARGET 2, SOFT 2", h -> h.cleaned(), 1);
        edges.asks(mixture(1, 2, 2).soft(1).target(2, 1, 1), "1 of 3, TARGET 2 and 1, SOFT 1", h -> h.cleaned(), 501);
        edges.asks(mixture(1, 2, 2).soft(2).target(2, 1, 2), "all OPEN by SOFT 2 already", h -> h.cleaned(), 1);
        edges.asks(mixture(1, 3, 2).soft(1).target(2, 1, 9), "1 of 4, TARGET 2, SOFT 1", h -> h.cleaned(), 1);
        edges.asks(mixture(2, 2, 2).soft(1).target(2, 1, 9), "2 of 4, TARGET 2, SOFT 1", h -> h.cleaned(), 102);
        Scene each = Scene.empty().questions(2).everywhere(1);
        for (int cell = 0; cell < 6; cell++) {
            each = each.people(cell / 2, cell % 2, 1);
        }
        for (int k = 0; k < 6; k++) {
            each = each.interview(k, 2, 1);
        }
        edges.asks(each, "each CELL", h -> h.cleaned(), 606);
    }

    public static void main(String[] args) {
        fortyInterviews();
        noQuestions();
        cannotBeAsked();
        beginIndex();
        fatigue();
        seconds();
        answerIndex();
        atTheEnd();
        tooFast();
        straightLine();
        lastOfForty();
        completeAlone();
        howManyCleaned();
        ofInterviews();
        given();
        many();
        wouldBeCleaned();
        edges.end();
    }
}
