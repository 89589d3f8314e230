import java.math.BigInteger;
import java.util.ArrayList;
import java.util.List;

/** The edges of the fourth part of "Terms", of promises 19 to 25, 28 and 30, and of what holds for all calls. */
public final class TablesEdgesTest {
    private static final Edges edges = new Edges("TablesEdgesTest");
    private static final int LEAST = Integer.MIN_VALUE;
    private static final int MOST = Integer.MAX_VALUE;
    private static final int[] STATES = {0, 1, 2, 3};
    private static final String ORDER = "If several exceptions apply, the one that is named first is thrown.";

    /**
     * One COMPLETE INTERVIEW each of the CELLS 0 0, 0 1 and 1 1; only the second one, of number 1, came to the
     * QUESTION 1, and gave ANSWER 1 there. Then these TARGETS for the CELLS 0 0, 0 1, 1 0 and 1 1.
     */
    private static Scene three(int t00, int t01, int t10, int t11) {
        return Scene.empty().questions(2, 2).route(0, 1, -1)
                .people(0, 0, 1).people(0, 1, 1).people(1, 1, 1).everywhere(1)
                .interview(0, 5, 1).interview(1, 5, 0, 1).interview(2, 5, 1)
                .everywhere(0).target(0, 0, t00).target(0, 1, t01).target(1, 0, t10).target(1, 1, t11);
    }

    private static void weights(String why, Scene scene, int... due) {
        for (int k = 0; k < due.length; k++) {
            int interview = k;
            edges.asks(scene, why + ": ofInterview(" + k + ", 5)", h -> h.ofInterview(interview, 5), due[k]);
        }
    }

    private static void rounds() {
        edges.sentence("Throws `IllegalArgumentException` if rounds is not 0 to 9");
        edges.bounds(Scene.empty(), "rounds(#)", 0, 9, Edges.ARGUMENT, (h, n) -> h.rounds(n));
        edges.bounds(three(0, 1, 2, 1), "rounds(#)", 0, 9, Edges.ARGUMENT, (h, n) -> h.rounds(n));
        edges.bounds(Scene.empty(), "offWith(#)", 0, 9, Edges.ARGUMENT, (h, n) -> h.offWith(n));
        edges.bounds(three(0, 1, 2, 1), "offWith(#)", 0, 9, Edges.ARGUMENT, (h, n) -> h.offWith(n));
        edges.sentence("as many ROUNDS (0 to 9; 3 at first) as are told");
        edges.due(Scene.empty(), "rounds(0), a new one", h -> h.rounds(0), 3);
        for (int r = 0; r <= 9; r++) {
            edges.due(Scene.empty().rounds(r), "rounds(3) behind rounds(" + r + ")", h -> h.rounds(3), r);
        }
        Scene scene = three(0, 1, 2, 1);
        weights("no ROUNDS told", scene, 2000, 24, 1975);
        weights("3 ROUNDS", scene.rounds(3), 2000, 24, 1975);
        // A 0 of 1000, A 1 of 3000: 500, 500, 3000. B 0 of 2000: 2000; B 1 of 2000: 500 and 3000 of 3500 are 285, 1714.
        weights("1 ROUND", scene.rounds(1), 2000, 285, 1714);
        // A 0: 2000 and 285 of 2285 are 875, 124; A 1: 3000. B 0: 2000; B 1: 124 and 3000 of 3124 are 79, 1920.
        weights("2 ROUNDS", scene.rounds(2), 2000, 79, 1920);
        // 2000 and 79 of 2079: 37; 37 and 3000 of 3037: 24, 1975. Then 11 of 1000; 11 and 3000 of 3011: 7, 1992.
        weights("4 ROUNDS", scene.rounds(4), 2000, 7, 1992);
        weights("9 ROUNDS", scene.rounds(9), 2000, 0, 2000);
        edges.sentence("1000 each at first");
        weights("0 ROUNDS", scene.rounds(0), 1000, 1000, 1000);
        weights("0 ROUNDS, TARGETS 0", three(0, 0, 0, 0).rounds(0), 1000, 1000, 1000);
    }

    private static void sumIsNone() {
        edges.sentence("(nothing is changed, if SUM is 0)");
        // A 0 of 1000: 500, 500; A 1 of 1000: 1000. B 0 of 10000: 10000; B 1 of 1000: 500 and 1000 of 1500.
        weights("A 2 and its MARGIN, but none of it", three(1, 0, 0, 1).target(2, 0, 9).rounds(1), 10000, 333, 666);
        for (int r = 1; r <= 9; r++) {
            weights("all MARGINS 0, ROUNDS " + r, three(0, 0, 0, 0).rounds(r), 0, 0, 0);
            weights("A 1 and B 0 of MARGIN 0, ROUNDS " + r, three(0, 4, 0, 0).rounds(r), 0, 4000, 0);
            weights("A 0 of MARGIN 0, ROUNDS " + r, three(0, 0, 0, 2).rounds(r), 0, 0, 2000);
        }
        weights("TARGETS are there again", three(0, 0, 0, 0).everywhere(1).rounds(0), 1000, 1000, 1000);
        weights("TARGETS are there again", three(0, 0, 0, 0).target(1, 1, 2), 0, 0, 2000);
        Scene first = Scene.of(1, 1, 0);
        edges.asks(first, "off(), no INTERVIEWS", h -> h.off(), 0);
        edges.asks(first, "offWith(9), no INTERVIEWS", h -> h.offWith(9), 0);
        edges.sentence("5 its WEIGHT (0, if it is not COMPLETE)");
        weights("one that is to be CLEANED", Scene.of(1, 1, 2).interview(0, 1, 0), 2000);
        weights("the same, CLEANED", Scene.of(1, 1, 2).interview(0, 1, 0).clean(), 0);
        edges.sentence("becomes WEIGHT * MARGIN / SUM");
        Scene most = Scene.of(1, 1, 9).target(0, 1, 9).interview(0, 5, 0).target(1, 0, 9).target(2, 0, 9);
        weights("the greatest WEIGHT, 27 TARGETS", most, 27000);
        weights("the greatest WEIGHT, 27 TARGETS, 9 ROUNDS", most.rounds(9), 27000);
        weights("9 of 27000", alike(9).target(1, 0, 9).target(2, 0, 9), 3000, 3000, 3000, 3000, 3000, 3000, 3000);
        weights("7 of 1000", alike(7).target(0, 0, 1), 142, 142, 142, 142, 142, 142, 142);
    }

    /** So many COMPLETE INTERVIEWS of the CELL 0 0, with the TARGET 9. */
    private static Scene alike(int count) {
        Scene scene = Scene.of(1, count, 9);
        for (int k = 0; k < count; k++) {
            scene = scene.interview(k, 5, 0);
        }
        return scene;
    }

    /** No ROUNDS, so 1000 each: one COMPLETE INTERVIEW of the CELLS 0 0, 1 1 and 2 0. */
    private static Scene plain() {
        return Scene.empty().questions(2).people(0, 0, 1).people(1, 1, 1).people(2, 0, 1).everywhere(1)
                .interview(0, 5, 0).interview(1, 5, 0).interview(2, 5, 1).everywhere(0).rounds(0);
    }

    private static void offAll() {
        edges.sentence("the greatest one of all five");
        edges.asks(plain().target(0, 0, 5).target(0, 1, 5), "off(), A 0", h -> h.off(), 9000);
        edges.asks(plain().target(1, 0, 5).target(1, 1, 5), "off(), A 1", h -> h.off(), 9000);
        edges.asks(plain().target(2, 0, 5).target(2, 1, 5), "off(), A 2", h -> h.off(), 9000);
        edges.asks(plain().target(0, 0, 5).target(1, 0, 5).target(2, 0, 5), "off(), B 0", h -> h.off(), 13000);
        edges.asks(plain().target(0, 1, 5).target(1, 1, 5).target(2, 1, 5), "off(), B 1", h -> h.off(), 14000);
        edges.asks(plain(), "off(), B 0 above its MARGIN", h -> h.off(), 2000);
        edges.asks(plain().target(0, 0, 1).target(1, 1, 1).target(2, 0, 1), "off(), all at their MARGINS",
                h -> h.off(), 0);
        edges.asks(plain().target(0, 0, 1).target(1, 1, 1).target(2, 0, 2), "off(), 1 apart", h -> h.off(), 1000);
        edges.sentence("OFF is how far the sum of all WEIGHTS with an A, or a B, is from its MARGIN, behind the last "
                + "ROUND");
        Scene scene = three(0, 1, 2, 1);
        edges.asks(scene, "off()", h -> h.off(), 1025);
        edges.asks(scene.rounds(0), "off(), no ROUNDS", h -> h.off(), 2000);
        edges.asks(scene.rounds(9), "off(), 9 ROUNDS", h -> h.off(), 1000);
        edges.asks(three(0, 1, 6, 0).rounds(2), "off(), one WEIGHT of 1", h -> h.off(), 5002);
        edges.sentence("of those of which the SUM is above 0 (0 without any)");
        edges.asks(Scene.empty(), "off(), a new one", h -> h.off(), 0);
        edges.asks(Scene.empty().everywhere(9), "off(), nobody", h -> h.off(), 0);
        int[] due = {0, 4000, 0, 0};
        for (int state : STATES) {
            Scene one = Scene.inState(state).rounds(0).target(0, 0, 5);
            edges.asks(one, "off(), one in state " + state, h -> h.off(), due[state]);
        }
        edges.asks(plain().target(0, 1, 0).target(1, 0, 1).target(1, 1, 1), "off(), SUM of A 2 above 0",
                h -> h.off(), 1000);
        edges.asks(three(1, 0, 0, 1).target(2, 0, 9).rounds(0), "off(), A 2 of SUM 0, MARGIN 9000", h -> h.off(), 9000);
        edges.asks(three(1, 1, 0, 1).target(2, 1, 9).target(2, 0, 9).rounds(0), "off(), A 2 of SUM 0, MARGIN 18000",
                h -> h.off(), 9000);
        edges.asks(three(0, 0, 0, 0), "off(), all WEIGHTS 0", h -> h.off(), 0);
        Scene lost = Scene.of(1, 1, 1).interview(0, 5, 0).target(0, 0, 0).target(0, 1, 9);
        edges.asks(lost, "off(), WEIGHT 0, MARGIN 9000", h -> h.off(), 0);
        edges.asks(lost.rounds(0), "off(), WEIGHT 1000, MARGINS 9000 and 0", h -> h.off(), 8000);
    }

    private static void offWith() {
        edges.sentence("Returns what OFF would be with these.");
        Scene[] scenes = {Scene.empty(), three(0, 1, 2, 1), three(0, 1, 6, 0), three(0, 0, 0, 0), plain(),
            Scene.full()};
        for (Scene scene : scenes) {
            for (int r = 0; r <= 9; r++) {
                int told = r;
                int due = scene.rounds(told).house().off();
                edges.asks(scene, "offWith(" + told + ")", h -> h.offWith(told), due);
                edges.asks(scene.rounds(9 - told), "offWith(" + told + ")", h -> h.offWith(told), due);
            }
        }
        edges.asks(three(0, 1, 2, 1), "offWith(0)", h -> h.offWith(0), 2000);
        edges.asks(three(0, 1, 2, 1), "offWith(3)", h -> h.offWith(3), 1025);
        edges.asks(three(0, 1, 2, 1), "offWith(9)", h -> h.offWith(9), 1000);
    }

    private static void shareIndex() {
        edges.sentence("Throws `IndexOutOfBoundsException` if there is no such QUESTION, ANSWER, or A (but NONE)");
        for (int count : new int[] {0, 1, 9, 10}) {
            edges.bounds(Scene.of(count, 1, 1), "share(#, 0, -1), of " + count, 0, count - 1, Edges.INDEX,
                    (h, n) -> h.share(n, 0, -1));
        }
        for (int answers = 2; answers <= 5; answers++) {
            edges.bounds(Scene.empty().questions(answers), "share(0, #, -1), of " + answers, 0, answers - 1,
                    Edges.INDEX,
                    (h, n) -> h.share(0, n, -1));
        }
        edges.bounds(plain(), "share(0, 0, #)", -1, 2, Edges.INDEX, (h, n) -> h.share(0, 0, n));
        edges.bounds(Scene.full(), "share(9, 4, #)", -1, 2, Edges.INDEX, (h, n) -> h.share(9, 4, n));
        edges.refused(plain(), "share of nothing", h -> h.share(MOST, MOST, MOST), Edges.INDEX);
        edges.refused(plain(), "share of nothing", h -> h.share(LEAST, LEAST, LEAST), Edges.INDEX);
    }

    private static void shareNone() {
        edges.sentence("NONE, if that WEIGHT is 0");
        int[] due = {-1, 100, -1, -1};
        for (int state : STATES) {
            edges.asks(Scene.inState(state), "share(0, 0, -1), one in state " + state,
                    h -> h.share(0, 0, -1), due[state]);
        }
        edges.asks(Scene.inState(0).answer(0, 0, 5), "share(0, 0, -1), at the last QUESTION",
                h -> h.share(0, 0, -1), -1);
        Scene scene = three(0, 1, 6, 0);
        weights("2 ROUNDS", scene.rounds(2), 6000, 1, 998);
        edges.asks(scene.rounds(2), "share(1, 1, -1), WEIGHT 1", h -> h.share(1, 1, -1), 100);
        edges.asks(scene.rounds(2), "share(1, 0, -1), WEIGHT 1", h -> h.share(1, 0, -1), 0);
        edges.asks(scene.rounds(2), "share(1, 1, 0), WEIGHT 1", h -> h.share(1, 1, 0), 100);
        edges.asks(scene.rounds(2), "share(1, 1, 1), none of A 1", h -> h.share(1, 1, 1), -1);
        weights("3 ROUNDS", scene.rounds(3), 6000, 0, 1000);
        edges.asks(scene.rounds(3), "share(1, 1, -1), WEIGHT 0", h -> h.share(1, 1, -1), -1);
        edges.asks(scene.rounds(3), "share(1, 1, 0), WEIGHT 0", h -> h.share(1, 1, 0), -1);
        edges.asks(scene.rounds(3), "share(0, 0, -1), WEIGHT 0 of 7000", h -> h.share(0, 0, -1), 0);
        edges.asks(scene.rounds(3), "share(0, 1, -1), WEIGHT 7000 of 7000", h -> h.share(0, 1, -1), 100);
        edges.asks(scene.rounds(3), "share(0, 1, 2), none of A 2", h -> h.share(0, 1, 2), -1);
        edges.sentence("SHARE of an ANSWER to a QUESTION, among all, or those with some A: of 100 how much of the "
                + "WEIGHT of all INTERVIEWS that are COMPLETE and answered that QUESTION is of those that gave that "
                + "ANSWER; cut");
        edges.asks(poll(1, 3, 2, 3), "share(0, 0, 0), 1 of 3", h -> h.share(0, 0, 0), 33);
        edges.asks(poll(1, 3, 2, 3), "share(0, 0, 1), 2 of 3", h -> h.share(0, 0, 1), 66);
        edges.asks(poll(1, 3, 2, 3), "share(0, 0, -1), 3 of 6", h -> h.share(0, 0, -1), 50);
        edges.asks(poll(1, 3, 0, 0), "share(0, 0, 1), none of A 1", h -> h.share(0, 0, 1), -1);
        edges.asks(poll(0, 3, 3, 3), "share(0, 0, 0), 0 of 3", h -> h.share(0, 0, 0), 0);
        edges.asks(poll(0, 3, 3, 3), "share(0, 0, 1), 3 of 3", h -> h.share(0, 0, 1), 100);
        edges.asks(poll(17, 18, 0, 3), "share(0, 0, 0), 17 of 18", h -> h.share(0, 0, 0), 94);
        edges.asks(poll(1, 18, 0, 3), "share(0, 0, 0), 1 of 18", h -> h.share(0, 0, 0), 5);
    }

    /**
     * WEIGHTS of 1000 each: of A 0, and then of A 1, so many gave ANSWER 0 of so many that are COMPLETE; the others
     * gave ANSWER 1.
     */
    private static Scene poll(int yes, int all, int otherYes, int otherAll) {
        Scene scene = Scene.empty().questions(3).everywhere(9).rounds(0);
        for (int k = 0; k < all + otherAll; k++) {
            int number = k < all ? k : k - all;
            boolean isYes = k < all ? k < yes : k - all < otherYes;
            scene = scene.people(k < all ? 0 : 1, number < 9 ? 0 : 1, 1).interview(k, 5, isYes ? 0 : 1);
        }
        return scene;
    }

    /** Asked either way round, and with the two A changed for one another. */
    private static void marked(boolean due, int yes, int all, int otherYes, int otherAll) {
        String call = "isMarked, " + yes + " of " + all + " and " + otherYes + " of " + otherAll;
        edges.asks(poll(yes, all, otherYes, otherAll), call, h -> h.isMarked(0, 0, 0, 1), due);
        edges.asks(poll(yes, all, otherYes, otherAll), call, h -> h.isMarked(0, 0, 1, 0), due);
        edges.asks(poll(otherYes, otherAll, yes, all), call, h -> h.isMarked(0, 0, 0, 1), due);
    }

    private static void markedApart() {
        edges.sentence("and these differ by 30 or more");
        marked(true, 2, 4, 1, 5);
        marked(false, 5, 8, 1, 3);
        marked(true, 0, 3, 3, 10);
        marked(false, 0, 3, 5, 17);
        marked(true, 3, 3, 7, 10);
        marked(false, 3, 3, 5, 7);
        marked(true, 0, 3, 3, 3);
        marked(false, 3, 3, 3, 3);
        marked(false, 0, 3, 0, 3);
        marked(true, 1, 3, 2, 3);
        edges.sentence("if of both 3 or more such INTERVIEWS answered that QUESTION");
        marked(false, 2, 2, 0, 3);
        marked(true, 3, 3, 0, 3);
        marked(false, 3, 3, 0, 2);
        marked(false, 2, 2, 0, 2);
        marked(false, 3, 3, 0, 0);
        marked(false, 0, 0, 0, 0);
        marked(true, 4, 4, 0, 4);
        edges.asks(poll(3, 3, 0, 3), "isMarked(0, 0, 0, 2), none of A 2", h -> h.isMarked(0, 0, 0, 2), false);
        edges.asks(poll(3, 3, 0, 3), "isMarked(0, 2, 0, 1), 0 and 0", h -> h.isMarked(0, 2, 0, 1), false);
        Scene two = poll(3, 3, 0, 2).people(1, 0, 1);
        edges.asks(two.interview(5, 5, 1), "the third one is COMPLETE", h -> h.isMarked(0, 0, 0, 1), true);
        edges.asks(two.begin(5), "the third one is RUNNING", h -> h.isMarked(0, 0, 0, 1), false);
        edges.asks(two.begin(5).target(1, 0, 0).answer(5, 1, 5), "the third one is OUT",
                h -> h.isMarked(0, 0, 0, 1), false);
        edges.asks(two.interview(5, 1, 1).clean(), "the third one is CLEANED", h -> h.isMarked(0, 0, 0, 1), false);
        Scene passing = Scene.empty().questions(2, 2).route(0, 1, -1).people(0, 0, 3).people(1, 0, 3).everywhere(9)
                .rounds(0).interview(0, 5, 0, 1).interview(1, 5, 0, 1).interview(2, 5, 0, 1)
                .interview(3, 5, 0, 0).interview(4, 5, 0, 0);
        edges.asks(passing.interview(5, 5, 0, 0), "3 and 3 answered QUESTION 1", h -> h.isMarked(1, 0, 0, 1), true);
        edges.asks(passing.interview(5, 5, 1), "3 and 2 answered QUESTION 1", h -> h.isMarked(1, 0, 0, 1), false);
        edges.asks(passing.interview(5, 5, 1), "3 and 3 answered QUESTION 0", h -> h.isMarked(0, 0, 0, 1), true);
        edges.sentence("neither SHARE is NONE");
        Scene none = poll(3, 3, 0, 3).rounds(3);
        edges.asks(none, "100 and 0", h -> h.isMarked(0, 0, 0, 1), true);
        edges.asks(none.target(1, 0, 0).target(1, 1, 0), "100 and NONE", h -> h.isMarked(0, 0, 0, 1), false);
        edges.asks(none.target(1, 0, 0).target(1, 1, 0), "NONE and 100", h -> h.isMarked(0, 0, 1, 0), false);
        edges.asks(none.target(0, 0, 0).target(0, 1, 0), "NONE and 0", h -> h.isMarked(0, 1, 0, 1), false);
        edges.asks(none.everywhere(0), "NONE and NONE", h -> h.isMarked(0, 0, 0, 1), false);
    }

    private static void markedIndex() {
        edges.sentence("Throws `IndexOutOfBoundsException` if there is no such QUESTION, ANSWER, or A");
        for (int count : new int[] {0, 1, 9, 10}) {
            edges.bounds(Scene.of(count, 1, 1), "isMarked(#, 0, 0, 1), of " + count, 0, count - 1, Edges.INDEX,
                    (h, n) -> h.isMarked(n, 0, 0, 1));
        }
        for (int answers = 2; answers <= 5; answers++) {
            edges.bounds(Scene.empty().questions(answers), "isMarked(0, #, 0, 1), of " + answers, 0, answers - 1,
                    Edges.INDEX, (h, n) -> h.isMarked(0, n, 0, 1));
        }
        Scene scene = poll(3, 3, 0, 3);
        for (int wrong : new int[] {LEAST, -1, 3, MOST}) {
            for (int k = 0; k <= 2; k++) {
                int a = k;
                edges.refused(scene, "isMarked(0, 0, " + a + ", " + wrong + ")",
                        h -> h.isMarked(0, 0, a, wrong), Edges.INDEX);
                edges.refused(scene, "isMarked(0, 0, " + wrong + ", " + a + ")",
                        h -> h.isMarked(0, 0, wrong, a), Edges.INDEX);
            }
        }
        for (int[] pair : new int[][] {{0, 1}, {1, 0}, {0, 2}, {2, 0}, {1, 2}, {2, 1}}) {
            edges.asks(scene, "isMarked(0, 0, " + pair[0] + ", " + pair[1] + ")",
                    h -> h.isMarked(0, 0, pair[0], pair[1]), pair[0] + pair[1] == 1);
        }
        edges.sentence("Throws `IllegalArgumentException` if a is other");
        for (int k = 0; k <= 2; k++) {
            int same = k;
            edges.refused(scene, "isMarked(0, 0, " + k + ", " + k + ")",
                    h -> h.isMarked(0, 0, same, same), Edges.ARGUMENT);
            edges.due(scene, "isMarked(0, 2, " + k + ", another)", h -> h.isMarked(0, 2, same, (same + 1) % 3), false);
        }
        edges.sentence(ORDER);
        edges.refused(scene, "isMarked(0, 0, -1, -1)", h -> h.isMarked(0, 0, -1, -1), Edges.INDEX);
        edges.refused(scene, "isMarked(0, 0, 3, 3)", h -> h.isMarked(0, 0, 3, 3), Edges.INDEX);
        edges.refused(scene, "isMarked(1, 0, 0, 0)", h -> h.isMarked(1, 0, 0, 0), Edges.INDEX);
        edges.refused(scene, "isMarked(-1, 0, 1, 1)", h -> h.isMarked(-1, 0, 1, 1), Edges.INDEX);
        edges.refused(scene, "isMarked(0, 3, 2, 2)", h -> h.isMarked(0, 3, 2, 2), Edges.INDEX);
        edges.refused(scene, "isMarked(0, -1, 2, 2)", h -> h.isMarked(0, -1, 2, 2), Edges.INDEX);
    }

    private static Scene held(Scene scene, int reports) {
        Scene then = scene;
        for (int k = 0; k < reports; k++) {
            then = then.then(h -> h.hold());
        }
        return then;
    }

    private static void reports() {
        edges.sentence("Throws `IllegalStateException` if there are 5");
        for (int k = 0; k < 5; k++) {
            edges.due(held(plain(), k), "hold(), with " + k, h -> h.hold(), k);
            edges.due(held(Scene.empty(), k), "hold(), with " + k + ", no QUESTIONS", h -> h.hold(), k);
            edges.due(held(plain(), k + 1), "many(10)", h -> h.many(10), k + 1);
        }
        edges.refused(held(plain(), 5), "hold(), with 5", h -> h.hold(), Edges.STATE);
        edges.refused(held(Scene.empty(), 5), "hold(), with 5, no QUESTIONS", h -> h.hold(), Edges.STATE);
        edges.refused(held(plain(), 5).target(0, 0, 9).people(0, 0, 1).interview(3, 5, 1), "hold(), with 5",
                h -> h.hold(),
                Edges.STATE);
        edges.refused(Scene.full(), "hold(), in a full house", h -> h.hold(), Edges.STATE);
        edges.sentence("Throws `IndexOutOfBoundsException` if there is no such report, QUESTION, or ANSWER");
        for (int count = 0; count <= 5; count++) {
            edges.bounds(held(plain(), count), "held(#, 0, 1), of " + count, 0, count - 1, Edges.INDEX,
                    (h, n) -> h.held(n, 0, 1));
        }
        for (int count : new int[] {0, 1, 9, 10}) {
            edges.bounds(held(Scene.of(count, 1, 1), 1), "held(0, #, 0), of " + count, 0, count - 1, Edges.INDEX,
                    (h, n) -> h.held(0, n, 0));
        }
        for (int answers = 2; answers <= 5; answers++) {
            edges.bounds(held(Scene.empty().questions(answers), 1), "held(0, 0, #), of " + answers, 0, answers - 1,
                    Edges.INDEX, (h, n) -> h.held(0, 0, n));
        }
        edges.refused(held(plain(), 1), "held of nothing", h -> h.held(MOST, MOST, MOST), Edges.INDEX);
        edges.refused(held(plain(), 1), "held of nothing", h -> h.held(LEAST, LEAST, LEAST), Edges.INDEX);
    }

    private static void heldNone() {
        edges.sentence("Returns the SHARE as it was held (NONE, if it was so, or the QUESTION was not there).");
        Scene later = held(Scene.of(9, 1, 1), 1).questions(5);
        edges.bounds(later, "held(0, 9, #), the QUESTION came later", 0, 4, Edges.INDEX, (h, n) -> h.held(0, 9, n));
        for (int k = 0; k < 5; k++) {
            int answer = k;
            edges.asks(later, "held(0, 9, " + k + "), the QUESTION came later", h -> h.held(0, 9, answer), -1);
        }
        edges.asks(held(Scene.empty(), 1).questions(2), "held(0, 0, 0), the first one came later",
                h -> h.held(0, 0, 0), -1);
        edges.asks(later, "held(0, 8, 1), it was NONE", h -> h.held(0, 8, 1), -1);
        Scene then = held(later.begin(0).answers(0, 5, 0, 1, 0, 1, 0, 1, 0, 1, 0, 4), 1);
        edges.asks(then, "held(0, 9, 4), it is 100 now", h -> h.held(0, 9, 4), -1);
        edges.asks(then, "held(0, 8, 0), it is 100 now", h -> h.held(0, 8, 0), -1);
        edges.asks(then, "held(1, 9, 4), it was 100", h -> h.held(1, 9, 4), 100);
        edges.asks(then, "held(1, 9, 3), it was 0", h -> h.held(1, 9, 3), 0);
        edges.asks(then.target(0, 0, 0), "held(1, 9, 4), it is NONE now", h -> h.held(1, 9, 4), 100);
        edges.asks(held(three(0, 1, 6, 0).rounds(2), 1).rounds(3), "held(0, 1, 1), WEIGHT 1",
                h -> h.held(0, 1, 1), 100);
        edges.asks(held(three(0, 1, 6, 0).rounds(3), 1).rounds(2), "held(0, 1, 1), WEIGHT 0", h -> h.held(0, 1, 1), -1);
        edges.asks(held(poll(1, 3, 0, 0), 5), "held(4, 0, 0), 1 of 3", h -> h.held(4, 0, 0), 33);
        edges.asks(held(poll(1, 3, 0, 0), 5), "held(4, 0, 2), 0 of 3", h -> h.held(4, 0, 2), 0);
        Scene wide = Scene.empty().questions(5, 5, 5, 5, 5, 5, 5, 5, 5, 5).people(0, 0, 1).target(0, 0, 1)
                .interview(0, 5, 4, 0, 4, 0, 4, 0, 4, 0, 4, 4);
        for (int k = 0; k < 5; k++) {
            int report = k;
            edges.asks(held(wide, 5), "held(" + k + ", 9, 4), the last one", h -> h.held(report, 9, 4), 100);
            edges.asks(held(wide, 5), "held(" + k + ", 9, 3)", h -> h.held(report, 9, 3), 0);
            edges.asks(held(wide, 5), "held(" + k + ", 0, 0), the first one", h -> h.held(report, 0, 0), 0);
            edges.asks(held(wide, 5), "held(" + k + ", 0, 4)", h -> h.held(report, 0, 4), 100);
        }
    }

    private static void meanSeconds() {
        edges.sentence("Returns the mean of SECONDS for an ANSWER, of all INTERVIEWS that are COMPLETE together, not "
                + "cut; 0 without any.");
        edges.asks(Scene.empty(), "meanSeconds(), a new one", h -> h.meanSeconds(), 0.0);
        double[] due = {0.0, 5.0, 0.0, 0.0};
        for (int state : STATES) {
            edges.asks(Scene.inState(state), "meanSeconds(), one in state " + state, h -> h.meanSeconds(), due[state]);
        }
        edges.asks(Scene.inState(0).answer(0, 0, 5), "meanSeconds(), RUNNING, with an ANSWER",
                h -> h.meanSeconds(), 0.0);
        edges.asks(Scene.of(1, 1, 1).interview(0, 1, 0), "meanSeconds(), 1", h -> h.meanSeconds(), 1.0);
        edges.asks(Scene.of(1, 1, 1).interview(0, 99, 0), "meanSeconds(), 99", h -> h.meanSeconds(), 99.0);
        Scene two = Scene.of(2, 2, 2).route(0, 1, -1);
        edges.asks(two.interview(0, 5, 0).answer(0, 0, 6), "meanSeconds(), 11 for 2", h -> h.meanSeconds(), 5.5);
        edges.asks(two.interview(0, 9, 1).interview(1, 3, 0, 0), "meanSeconds(), 15 for 3", h -> h.meanSeconds(), 5.0);
        edges.asks(two.interview(0, 4, 1).interview(1, 3, 0, 0), "meanSeconds(), 10 for 3",
                h -> h.meanSeconds(), 10.0 / 3.0);
        edges.asks(Scene.full(), "meanSeconds(), 147 for 39, in a full house", h -> h.meanSeconds(), 147.0 / 39.0);
    }

    /** The numbers of which digest() is made, each group from a house of its own. */
    private static List<Long> numbers(Scene scene) {
        List<Long> all = new ArrayList<>();
        SurveyHouse h = scene.house();
        for (int w = 0; w <= 11; w++) {
            all.add((long) h.many(w));
        }
        for (int cell = 0; cell < 6; cell++) {
            for (int w = 0; w <= 4; w++) {
                all.add((long) h.ofCell(cell / 2, cell % 2, w));
            }
        }
        SurveyHouse panel = scene.house();
        for (int p = 0; p < h.many(1); p++) {
            for (int w = 0; w <= 5; w++) {
                all.add((long) panel.ofPerson(p, w));
            }
        }
        for (int i = 0; i < h.many(2) + h.many(3) + h.many(4) + h.many(5); i++) {
            SurveyHouse one = scene.house();
            for (int w = 0; w <= 6; w++) {
                all.add((long) one.ofInterview(i, w));
            }
            for (int q = 0; q < h.many(0); q++) {
                all.add((long) one.given(i, q));
            }
        }
        for (int q = 0; q < h.many(0); q++) {
            SurveyHouse one = scene.house();
            for (int a = 0; a < 5; a++) {
                int question = q;
                int answer = a;
                if (!Check.outcome(() -> one.behind(question, answer)).startsWith("throws")) {
                    all.add((long) one.share(q, a, -1));
                }
            }
            all.add((long) one.shortest(q));
        }
        for (int n : new int[] {h.next(), h.off(), h.cleaned(), h.nextIn(3)}) {
            all.add((long) n);
        }
        return all;
    }

    /** INTERVIEWS of one ANSWER in 1 SECOND each, COMPLETE, so many of the CELLS 0 0, 1 0 and 2 0, which are FILLED. */
    private static Scene tooFast(int... counts) {
        Scene scene = Scene.empty().questions(2);
        int person = 0;
        for (int a = 0; a < counts.length; a++) {
            scene = scene.people(a, 0, counts[a]).target(a, 0, counts[a]);
            for (int k = 0; k < counts[a]; k++) {
                scene = scene.interview(person, 1, 0);
                person++;
            }
        }
        return scene;
    }

    /** The PERSON 0 of two, who would be NEXT from so many DAYS on, 3 or 4, and not ahead of that. */
    private static Scene rested(int days) {
        return Scene.of(1, 2, 1).interview(0, 1, 0).clean().days(4 - days).interview(0, 1, 0).clean();
    }

    private static void digest() {
        edges.sentence("A number d starts with 58114; for each of the following numbers v, d becomes d * 31 + v, "
                + "which wraps around as a 64-bit integer");
        Scene[] scenes = {Scene.empty(), Scene.of(1, 0, 0), Scene.of(0, 1, 1), Scene.of(1, 24, 9), Scene.of(10, 24, 9),
            Scene.inState(0), Scene.inState(1), Scene.inState(2), Scene.inState(3), three(0, 1, 6, 0), plain(),
            poll(2, 4, 1, 5), Scene.full(), Scene.full().days(3), tooFast(3, 4, 5), rested(3), rested(4)};
        for (Scene scene : scenes) {
            BigInteger d = BigInteger.valueOf(58114);
            for (long v : numbers(scene)) {
                d = d.multiply(BigInteger.valueOf(31)).add(BigInteger.valueOf(v));
            }
            edges.asks(scene, "digest()", h -> h.digest(), d.longValue());
        }
        edges.sentence("next(), off(), cleaned(), nextIn() of 3.");
        edges.asks(tooFast(3, 4, 5), "cleaned(), of that digest()", h -> h.cleaned(), 312);
        edges.asks(rested(3), "nextIn(2), not of that digest()", h -> h.nextIn(2), 1);
        edges.asks(rested(3), "nextIn(3), of that digest()", h -> h.nextIn(3), 0);
        edges.asks(rested(4), "nextIn(3), of that digest()", h -> h.nextIn(3), 1);
        edges.asks(rested(4), "nextIn(4), not of that digest()", h -> h.nextIn(4), 0);
    }

    private static void nothingIsChanged() {
        edges.sentence("what would be (nothing is changed)");
        Scene busy = Scene.full().rounds(1).soft(2).target(0, 0, 1).days(1);
        for (Scene scene : new Scene[] {busy, Scene.inState(0), Scene.inState(1), three(0, 1, 2, 1)}) {
            SurveyHouse h = scene.house();
            edges.asks(scene, "cleaned()", x -> x.cleaned(), h.cleaned());
            edges.asks(scene, "nextIn(9)", x -> x.nextIn(9), h.nextIn(9));
            edges.asks(scene, "offWith(9)", x -> x.offWith(9), h.offWith(9));
            edges.asks(scene, "offWith(0)", x -> x.offWith(0), h.offWith(0));
            edges.asks(scene, "shortest(0)", x -> x.shortest(0), h.shortest(0));
            edges.asks(scene, "digest()", x -> x.digest(), h.digest());
        }
    }

    private static void refusedInMidst(String call, Scene.Call ask, Class<? extends RuntimeException> want) {
        Scene full = Scene.full().soft(1).rounds(5).target(1, 1, 2).days(1);
        edges.refused(full, call + ", in a full house", ask, want);
    }

    private static void refusedChangesNothing() {
        edges.sentence("A method that throws an exception changes nothing.");
        refusedInMidst("question(2)", h -> h.question(2), Edges.STATE);
        refusedInMidst("question(1)", h -> h.question(1), Edges.ARGUMENT);
        refusedInMidst("route(0, 0, -1)", h -> h.route(0, 0, -1), Edges.STATE);
        refusedInMidst("route(1, 0, 0)", h -> h.route(1, 0, 0), Edges.ARGUMENT);
        refusedInMidst("route(0, 5, -1)", h -> h.route(0, 5, -1), Edges.INDEX);
        refusedInMidst("rotate(3)", h -> h.rotate(3), Edges.STATE);
        refusedInMidst("rotate(4)", h -> h.rotate(4), Edges.ARGUMENT);
        refusedInMidst("behind(10, 0)", h -> h.behind(10, 0), Edges.INDEX);
        refusedInMidst("person(0, 0)", h -> h.person(0, 0), Edges.STATE);
        refusedInMidst("person(3, 0)", h -> h.person(3, 0), Edges.ARGUMENT);
        refusedInMidst("target(0, 0, 10)", h -> h.target(0, 0, 10), Edges.ARGUMENT);
        refusedInMidst("target(3, 0, 0)", h -> h.target(3, 0, 0), Edges.INDEX);
        refusedInMidst("soft(4)", h -> h.soft(4), Edges.ARGUMENT);
        refusedInMidst("ofCell(0, 0, 5)", h -> h.ofCell(0, 0, 5), Edges.ARGUMENT);
        refusedInMidst("ofPerson(24, 0)", h -> h.ofPerson(24, 0), Edges.INDEX);
        refusedInMidst("begin(0), COMPLETE", h -> h.begin(0), Edges.STATE);
        refusedInMidst("begin(20), can be ASKED", h -> h.begin(20), Edges.STATE);
        refusedInMidst("begin(22), RUNNING", h -> h.begin(22), Edges.STATE);
        refusedInMidst("begin(24)", h -> h.begin(24), Edges.INDEX);
        refusedInMidst("answer(38, 3, 5)", h -> h.answer(38, 3, 5), Edges.ARGUMENT);
        refusedInMidst("answer(38, 0, 100)", h -> h.answer(38, 0, 100), Edges.ARGUMENT);
        refusedInMidst("answer(36, 0, 5), OUT", h -> h.answer(36, 0, 5), Edges.STATE);
        refusedInMidst("answer(0, 0, 5), CLEANED", h -> h.answer(0, 0, 5), Edges.STATE);
        refusedInMidst("answer(16, 0, 5), COMPLETE", h -> h.answer(16, 0, 5), Edges.STATE);
        refusedInMidst("answer(40, 0, 5)", h -> h.answer(40, 0, 5), Edges.INDEX);
        refusedInMidst("ofInterview(40, 0)", h -> h.ofInterview(40, 0), Edges.INDEX);
        refusedInMidst("given(0, 10)", h -> h.given(0, 10), Edges.INDEX);
        refusedInMidst("many(12)", h -> h.many(12), Edges.ARGUMENT);
        refusedInMidst("rounds(10)", h -> h.rounds(10), Edges.ARGUMENT);
        refusedInMidst("share(0, 0, 3)", h -> h.share(0, 0, 3), Edges.INDEX);
        refusedInMidst("isMarked(0, 0, 1, 1)", h -> h.isMarked(0, 0, 1, 1), Edges.ARGUMENT);
        refusedInMidst("hold()", h -> h.hold(), Edges.STATE);
        refusedInMidst("held(5, 0, 0)", h -> h.held(5, 0, 0), Edges.INDEX);
        refusedInMidst("nextIn(10)", h -> h.nextIn(10), Edges.ARGUMENT);
        refusedInMidst("offWith(10)", h -> h.offWith(10), Edges.ARGUMENT);
        refusedInMidst("shortest(10)", h -> h.shortest(10), Edges.INDEX);
    }

    public static void main(String[] args) {
        rounds();
        sumIsNone();
        offAll();
        offWith();
        shareIndex();
        shareNone();
        markedApart();
        markedIndex();
        reports();
        heldNone();
        meanSeconds();
        digest();
        nothingIsChanged();
        refusedChangesNothing();
        edges.end();
    }
}
