/** The edges of the second part of "Terms", and of promises 6 to 12 and 27. */
public final class PanelEdgesTest {
    private static final Edges edges = new Edges("PanelEdgesTest");
    private static final int LEAST = Integer.MIN_VALUE;
    private static final int MOST = Integer.MAX_VALUE;
    private static final String ORDER = "If several exceptions apply, the one that is named first is thrown.";

    private static Scene people(int count) {
        Scene scene = Scene.empty();
        for (int k = 0; k < count; k++) {
            scene = scene.people(k % 3, k % 2, 1);
        }
        return scene;
    }

    /** An INTERVIEW of one ANSWER that is CLEANED at once, so that nothing is left of it but FATIGUE. */
    private static Scene tire(Scene scene, int person) {
        return scene.interview(person, 1, 0).clean();
    }

    /** The PERSON 0 with that FATIGUE, 0 to 6, among so many PEOPLE; TARGET 1. */
    private static Scene tired(int fatigue, int people) {
        Scene scene = Scene.of(1, people, 1);
        for (int k = 0; k < (fatigue + 1) / 2; k++) {
            scene = tire(scene, 0);
        }
        return scene.days(fatigue % 2);
    }

    private static void twentyFourPeople() {
        edges.sentence("PEOPLE: at most 24, numbered from 0");
        for (int k = 0; k < 24; k++) {
            edges.due(people(k), "person(2, 1), with " + k, h -> h.person(2, 1), k);
            edges.due(people(k + 1), "many(1)", h -> h.many(1), k + 1);
        }
        edges.sentence("Throws `IllegalStateException` if there are 24");
        edges.due(people(23), "person(0, 0), with 23", h -> h.person(0, 0), 23);
        edges.refused(people(24), "person(0, 0), with 24", h -> h.person(0, 0), Edges.STATE);
        edges.refused(people(24), "person(2, 1), with 24", h -> h.person(2, 1), Edges.STATE);
        edges.refused(Scene.full(), "person(1, 0), in a full house", h -> h.person(1, 0), Edges.STATE);
        edges.due(Scene.inState(0), "person(0, 0), behind an INTERVIEW", h -> h.person(0, 0), 1);
        edges.sentence(ORDER);
        edges.refused(people(24), "person(3, 0), with 24", h -> h.person(3, 0), Edges.ARGUMENT);
        edges.refused(people(24), "person(0, 2), with 24", h -> h.person(0, 2), Edges.ARGUMENT);
        edges.refused(people(24), "person(-1, -1), with 24", h -> h.person(-1, -1), Edges.ARGUMENT);
    }

    private static void traits() {
        edges.sentence("Throws `IllegalArgumentException` if a is not 0 to 2, or b is not 0 or 1");
        for (int k = 0; k <= 2; k++) {
            int a = k;
            edges.bounds(people(1), "person(" + a + ", #)", 0, 1, Edges.ARGUMENT, (h, n) -> h.person(a, n));
        }
        for (int k = 0; k <= 1; k++) {
            int b = k;
            edges.bounds(people(1), "person(#, " + b + ")", 0, 2, Edges.ARGUMENT, (h, n) -> h.person(n, b));
        }
        edges.refused(people(0), "person of nothing", h -> h.person(MOST, LEAST), Edges.ARGUMENT);
        edges.sentence("each with a trait A, 0 to 2, a trait B, 0 or 1, a FATIGUE, 0 to 9 (0 at first), and POINTS "
                + "(0)");
        for (int cell = 0; cell < 6; cell++) {
            int a = cell / 2;
            int b = cell % 2;
            Scene scene = people(2).people(a, b, 1);
            edges.due(scene, "ofPerson(2, 0)", h -> h.ofPerson(2, 0), a);
            edges.due(scene, "ofPerson(2, 1)", h -> h.ofPerson(2, 1), b);
            edges.due(scene, "ofPerson(2, 2)", h -> h.ofPerson(2, 2), 0);
            edges.due(scene, "ofPerson(2, 3)", h -> h.ofPerson(2, 3), 0);
        }
    }

    private static void targets() {
        edges.sentence("each CELL, of an A and a B, has a TARGET, 0 to 9 (0 at first)");
        for (int cell = 0; cell < 6; cell++) {
            int a = cell / 2;
            int b = cell % 2;
            edges.due(Scene.empty(), "ofCell(" + a + ", " + b + ", 0)", h -> h.ofCell(a, b, 0), 0);
            edges.due(Scene.empty(), "target(" + a + ", " + b + ", 9)", h -> h.target(a, b, 9), 0);
            edges.due(Scene.empty().target(a, b, 9), "target(" + a + ", " + b + ", 0)", h -> h.target(a, b, 0), 9);
            edges.due(Scene.empty().target(a, b, 9), "many(6)", h -> h.many(6), 9);
        }
        edges.sentence("Throws `IllegalArgumentException` if target is not 0 to 9");
        edges.bounds(people(1), "target(0, 0, #)", 0, 9, Edges.ARGUMENT, (h, n) -> h.target(0, 0, n));
        edges.bounds(people(1).everywhere(5), "target(2, 1, #)", 0, 9, Edges.ARGUMENT, (h, n) -> h.target(2, 1, n));
        edges.sentence("Throws `IndexOutOfBoundsException` if there is no such A, or B");
        for (int k = 0; k <= 1; k++) {
            int b = k;
            edges.bounds(people(1), "target(#, " + b + ", 4)", 0, 2, Edges.INDEX, (h, n) -> h.target(n, b, 4));
            edges.bounds(people(1), "ofCell(#, " + b + ", 0)", 0, 2, Edges.INDEX, (h, n) -> h.ofCell(n, b, 0));
        }
        for (int k = 0; k <= 2; k++) {
            int a = k;
            edges.bounds(people(1), "target(" + a + ", #, 4)", 0, 1, Edges.INDEX, (h, n) -> h.target(a, n, 4));
            edges.bounds(people(1), "ofCell(" + a + ", #, 0)", 0, 1, Edges.INDEX, (h, n) -> h.ofCell(a, n, 0));
        }
        edges.refused(people(1), "target of nothing", h -> h.target(MOST, MOST, 0), Edges.INDEX);
        edges.refused(people(1), "ofCell of nothing", h -> h.ofCell(LEAST, LEAST, 0), Edges.INDEX);
        edges.sentence(ORDER);
        edges.refused(people(1), "target(3, 0, 10)", h -> h.target(3, 0, 10), Edges.INDEX);
        edges.refused(people(1), "target(0, 2, -1)", h -> h.target(0, 2, -1), Edges.INDEX);
        edges.refused(people(1), "target(-1, -1, -1)", h -> h.target(-1, -1, -1), Edges.INDEX);
        edges.refused(people(1), "ofCell(3, 0, 5)", h -> h.ofCell(3, 0, 5), Edges.INDEX);
        edges.refused(people(1), "ofCell(0, -1, -1)", h -> h.ofCell(0, -1, -1), Edges.INDEX);
    }

    private static void softs() {
        edges.sentence("A SOFT edge, 0 to 3 (0 at first).");
        edges.due(Scene.empty(), "soft(3), a new one", h -> h.soft(3), 0);
        for (int s = 0; s <= 3; s++) {
            edges.due(Scene.empty().soft(s), "soft(1) behind soft(" + s + ")", h -> h.soft(1), s);
        }
        edges.sentence("Throws `IllegalArgumentException` if soft is not 0 to 3");
        edges.bounds(Scene.of(1, 1, 1).soft(2), "soft(#)", 0, 3, Edges.ARGUMENT, (h, n) -> h.soft(n));
    }

    private static void filled() {
        edges.sentence("is FILLED by as many INTERVIEWS with people of that CELL as are COMPLETE");
        int[] due = {0, 1, 0, 0};
        for (int state = 0; state <= 3; state++) {
            edges.due(Scene.inState(state), "ofCell(0, 0, 1), one in state " + state,
                    h -> h.ofCell(0, 0, 1), due[state]);
            edges.due(Scene.inState(state), "ofCell(0, 1, 1), one in state " + state, h -> h.ofCell(0, 1, 1), 0);
        }
        Scene nine = Scene.of(1, 10, 9);
        for (int k = 0; k < 9; k++) {
            int count = k;
            edges.due(nine, "ofCell(0, 0, 1)", h -> h.ofCell(0, 0, 1), count);
            nine = nine.interview(k, 5, 0);
        }
        edges.due(nine, "ofCell(0, 0, 1)", h -> h.ofCell(0, 0, 1), 9);
        edges.due(nine.target(0, 0, 0), "ofCell(0, 0, 1), TARGET 0", h -> h.ofCell(0, 0, 1), 9);
    }

    /**
     * Of CELL 0 0 the TARGET, and by how many it is FILLED, SOFT, and of CELL 2 1 the TARGET and by how many it is
     * FILLED; PERSON 0, of CELL 0 0, is at the last QUESTION.
     */
    private static Scene quotas(int target, int filled, int soft, int otherTarget, int otherFilled) {
        Scene scene = Scene.of(1, 10, 9).people(2, 1, 9).target(2, 1, 9).begin(0);
        for (int k = 1; k <= filled; k++) {
            scene = scene.interview(k, 5, 0);
        }
        for (int k = 10; k < 10 + otherFilled; k++) {
            scene = scene.interview(k, 5, 0);
        }
        return scene.soft(soft).target(0, 0, target).target(2, 1, otherTarget);
    }

    private static void open(boolean due, int target, int filled, int soft, int otherTarget, int otherFilled) {
        Scene scene = quotas(target, filled, soft, otherTarget, otherFilled);
        String call = "TARGET " + target + ", FILLED " + filled + ", SOFT " + soft
                + ", the other's TARGET " + otherTarget + ", FILLED " + otherFilled + ": ";
        edges.due(scene, call + "ofCell(0, 0, 2)", h -> h.ofCell(0, 0, 2), due ? 1 : 0);
        edges.due(scene, call + "ofPerson(9, 4)", h -> h.ofPerson(9, 4), due ? 1 : 0);
        if (due) {
            edges.due(scene, call + "begin(9)", h -> h.begin(9), 1 + filled + otherFilled);
        } else {
            edges.refused(scene, call + "begin(9)", h -> h.begin(9), Edges.STATE);
        }
        edges.due(scene.answer(0, 0, 5), call + "ofInterview(0, 1) at the END", h -> h.ofInterview(0, 1), due ? 1 : 2);
        edges.due(scene.answer(0, 0, 5), call + "ofPerson(0, 3) at the END", h -> h.ofPerson(0, 3), due ? 10 : 2);
    }

    private static void openByTarget() {
        edges.sentence("A CELL is OPEN, if it is FILLED less than its TARGET.");
        open(false, 0, 0, 0, 0, 0);
        open(true, 1, 0, 0, 0, 0);
        open(false, 1, 1, 0, 0, 0);
        open(true, 2, 1, 0, 0, 0);
        open(false, 2, 3, 0, 0, 0);
        open(true, 9, 8, 0, 0, 0);
        open(false, 8, 8, 0, 0, 0);
        open(false, 2, 2, 0, 9, 0);
        open(true, 2, 1, 0, 0, 9);
        open(true, 1, 0, 3, 0, 1);
    }

    private static void openBySoft() {
        edges.sentence("It is OPEN, too, if it is FILLED less than the sum of its TARGET and SOFT, and all CELLS "
                + "together are FILLED less than all their TARGETS together.");
        for (int soft = 1; soft <= 3; soft++) {
            open(true, 2, 1 + soft, soft, 9, 0);
            open(false, 2, 2 + soft, soft, 9, 0);
            open(false, 2, 3 + soft, soft, 9, 0);
            open(true, 0, soft - 1, soft, 9, 0);
            open(false, 0, soft, soft, 9, 0);
        }
        open(true, 2, 2, 1, 1, 0);
        open(false, 2, 2, 1, 0, 0);
        open(false, 2, 2, 1, 1, 1);
        open(false, 2, 2, 1, 1, 2);
        open(true, 2, 2, 1, 4, 3);
        open(false, 2, 2, 1, 4, 4);
        open(false, 2, 2, 1, 4, 5);
        open(true, 0, 0, 1, 1, 0);
        open(false, 0, 0, 1, 1, 1);
        open(true, 2, 4, 3, 3, 0);
        open(false, 2, 4, 3, 2, 0);
        edges.due(Scene.empty().soft(3), "many(7), no TARGET", h -> h.many(7), 0);
        edges.due(Scene.empty().soft(1).target(1, 1, 1), "many(7), one TARGET", h -> h.many(7), 6);
        edges.due(Scene.empty().target(1, 1, 1), "many(7), one TARGET, SOFT 0", h -> h.many(7), 1);
    }

    /** Whether the PERSON 0 can be ASKED, seen by each call that tells it. */
    private static void asked(String why, Scene scene, boolean due) {
        edges.due(scene, why + ": ofPerson(0, 4)", h -> h.ofPerson(0, 4), due ? 1 : 0);
        edges.due(scene, why + ": ofCell(0, 0, 4)", h -> h.ofCell(0, 0, 4), due ? 1 : 0);
        edges.due(scene, why + ": many(8)", h -> h.many(8), due ? 1 : 0);
        edges.due(scene, why + ": next()", h -> h.next(), due ? 0 : -1);
        edges.due(scene, why + ": nextIn(0)", h -> h.nextIn(0), due ? 0 : -1);
        if (due) {
            int begun = scene.house().many(2) + scene.house().many(3) + scene.house().many(4) + scene.house().many(5);
            edges.due(scene, why + ": begin(0)", h -> h.begin(0), begun);
        } else {
            edges.refused(scene, why + ": begin(0)", h -> h.begin(0), Edges.STATE);
        }
    }

    private static void canBeAsked() {
        edges.sentence("A PERSON can be ASKED, if no INTERVIEW with it is RUNNING, or COMPLETE, its FATIGUE is 4 or "
                + "less, and its CELL is OPEN.");
        boolean[] due = {false, false, true, true};
        for (int state = 0; state <= 3; state++) {
            asked("one INTERVIEW in state " + state, Scene.inState(state).target(0, 0, 2), due[state]);
        }
        for (int fatigue = 0; fatigue <= 6; fatigue++) {
            asked("FATIGUE " + fatigue, tired(fatigue, 1), fatigue <= 4);
        }
        asked("FATIGUE 4, RUNNING", tired(2, 1).begin(0), false);
        asked("TARGET 0", Scene.of(1, 1, 0), false);
        asked("TARGET 1", Scene.of(1, 1, 1), true);
        asked("OPEN by SOFT", Scene.of(1, 1, 0).target(2, 1, 1).soft(1), true);
        asked("COMPLETE behind one that was CLEANED", tired(2, 1).interview(0, 5, 0).target(0, 0, 2), false);
        asked("CLEANED behind one that was CLEANED", tired(4, 1), true);
    }

    private static void next(String why, int due, Scene scene) {
        edges.asks(scene, why + ": next()", h -> h.next(), due);
        edges.asks(scene, why + ": nextIn(0)", h -> h.nextIn(0), due);
    }

    private static void nextByLack() {
        edges.sentence("Returns who is NEXT; NONE without one.");
        next("nobody", -1, Scene.empty().everywhere(9));
        next("one, CELL not OPEN", -1, Scene.of(1, 1, 0));
        next("one", 0, Scene.of(1, 1, 1));
        next("one, no QUESTIONS", 0, Scene.of(0, 1, 1));
        next("the last of 24", 23, Scene.of(1, 23, 0).people(2, 1, 1).target(2, 1, 1));
        next("all 24 alike", 0, Scene.of(1, 24, 9));
        edges.sentence("NEXT is, of those who can be ASKED, the one whose CELL lacks the most (TARGET less FILLED; "
                + "below 0, too), of several the one with the least FATIGUE, then with the smallest number.");
        Scene two = Scene.of(1, 5, 9).people(1, 0, 5);
        next("9 and 8", 0, two.target(1, 0, 8));
        next("8 and 9", 5, two.target(0, 0, 8).target(1, 0, 9));
        next("9 and 9", 0, two.target(1, 0, 9));
        next("9 less 1 and 8", 1, two.target(1, 0, 8).interview(0, 5, 0));
        next("8 less 1 and 8", 5, two.target(0, 0, 8).target(1, 0, 8).interview(0, 5, 0));
        Scene far = two.target(1, 0, 9).interview(0, 5, 0).interview(5, 5, 0).interview(6, 5, 0).soft(3).target(2, 1,
                9);
        next("0 and 0", 1, far.target(0, 0, 1).target(1, 0, 2));
        next("0 and -1", 1, far.target(0, 0, 1).target(1, 0, 1));
        next("-1 and 0", 7, far.target(0, 0, 0).target(1, 0, 2));
        next("-1 and -1", 1, far.target(0, 0, 0).target(1, 0, 1));
        next("-1 and -2", 1, far.target(0, 0, 0).target(1, 0, 0));
        next("TARGET 0, SOFT 1, FILLED 0", 0, Scene.of(1, 1, 0).soft(1).target(2, 1, 1));
    }

    private static void nextByFatigue() {
        Scene three = Scene.of(1, 3, 3);
        next("FATIGUE 2, 0, 0", 1, tire(three, 0));
        next("FATIGUE 1, 0, 0", 1, tire(three, 0).days(1));
        next("FATIGUE 0, 0, 0", 0, tire(three, 0).days(2));
        next("FATIGUE 2, 2, 0", 2, tire(tire(three, 0), 1));
        next("FATIGUE 0, 2, 2", 0, tire(tire(three, 1), 2));
        next("FATIGUE 0, 1, 1", 0, tire(tire(three, 1), 2).days(1));
        next("FATIGUE 2, 0, 2", 1, tire(tire(three, 0), 2));
        next("FATIGUE 2, 2, 2", 0, tire(tire(tire(three, 1), 2), 0));
        next("FATIGUE 3, 2, 2", 1, tire(tire(tire(tire(three, 0).days(1), 0), 1), 2));
        next("FATIGUE 4, 4, 3", 2, tire(tire(tire(tire(tire(tire(three, 2).days(1), 2), 0), 0), 1), 1));
        next("lacks 2, FATIGUE 4, and lacks 1, FATIGUE 0", 0,
                tire(tire(Scene.of(1, 1, 2), 0), 0).people(1, 0, 1).target(1, 0, 1));
        next("lacks 2, FATIGUE 5, and lacks 1, FATIGUE 0", 1,
                tired(5, 1).target(0, 0, 2).people(1, 0, 1).target(1, 0, 1));
        next("lacks 2, FATIGUE 4, and lacks 1, FATIGUE 0, by a DAY", 0,
                tired(5, 1).target(0, 0, 2).people(1, 0, 1).target(1, 0, 1).days(1));
        next("FATIGUE 6 of the only one", -1, tired(6, 1));
        next("FATIGUE 5 of the only one", -1, tired(5, 1));
        next("FATIGUE 4 of the only one", 0, tired(4, 1));
    }

    private static void ofCells() {
        edges.sentence("Throws `IllegalArgumentException` if what is not 0 to 4");
        edges.bounds(people(1), "ofCell(0, 0, #)", 0, 4, Edges.ARGUMENT, (h, n) -> h.ofCell(0, 0, n));
        edges.bounds(Scene.full(), "ofCell(2, 1, #)", 0, 4, Edges.ARGUMENT, (h, n) -> h.ofCell(2, 1, n));
        edges.sentence("3 how many PEOPLE are of it, 4 how many of these can be ASKED");
        for (int count : new int[] {0, 1, 23, 24}) {
            Scene scene = Scene.of(1, count, 9);
            edges.asks(scene, "ofCell(0, 0, 3), of " + count, h -> h.ofCell(0, 0, 3), count);
            edges.asks(scene, "ofCell(0, 0, 4), of " + count, h -> h.ofCell(0, 0, 4), count);
            edges.asks(scene.target(0, 0, 0), "ofCell(0, 0, 4), shut, of " + count, h -> h.ofCell(0, 0, 4), 0);
            edges.asks(scene, "ofCell(0, 1, 3)", h -> h.ofCell(0, 1, 3), 0);
            edges.asks(scene, "ofCell(1, 0, 3)", h -> h.ofCell(1, 0, 3), 0);
        }
        edges.asks(Scene.of(1, 2, 9).begin(0), "ofCell(0, 0, 4), one is RUNNING", h -> h.ofCell(0, 0, 4), 1);
        edges.asks(Scene.of(1, 2, 9).begin(0).begin(1), "ofCell(0, 0, 4), both are", h -> h.ofCell(0, 0, 4), 0);
    }

    private static void ofPeople() {
        edges.sentence("Throws `IndexOutOfBoundsException` if there is no such PERSON");
        for (int count : new int[] {0, 1, 23, 24}) {
            edges.bounds(people(count), "ofPerson(#, 0), of " + count, 0, count - 1, Edges.INDEX,
                    (h, n) -> h.ofPerson(n, 0));
        }
        edges.sentence("Throws `IllegalArgumentException` if what is not 0 to 5");
        edges.bounds(people(1), "ofPerson(0, #)", 0, 5, Edges.ARGUMENT, (h, n) -> h.ofPerson(0, n));
        edges.bounds(Scene.full(), "ofPerson(23, #)", 0, 5, Edges.ARGUMENT, (h, n) -> h.ofPerson(23, n));
        edges.sentence(ORDER);
        edges.refused(people(1), "ofPerson(1, 6)", h -> h.ofPerson(1, 6), Edges.INDEX);
        edges.refused(people(1), "ofPerson(-1, -1)", h -> h.ofPerson(-1, -1), Edges.INDEX);
        edges.sentence("5 the latest INTERVIEW (NONE)");
        Scene two = Scene.of(1, 3, 3);
        edges.asks(two, "ofPerson(0, 5), none", h -> h.ofPerson(0, 5), -1);
        edges.asks(two.begin(0), "ofPerson(0, 5), INTERVIEW 0", h -> h.ofPerson(0, 5), 0);
        edges.asks(two.begin(0), "ofPerson(1, 5), none", h -> h.ofPerson(1, 5), -1);
        Scene more = tire(tire(tire(two, 0), 1), 0);
        edges.asks(more, "ofPerson(0, 5), 0 and 2", h -> h.ofPerson(0, 5), 2);
        edges.asks(more, "ofPerson(1, 5), 1", h -> h.ofPerson(1, 5), 1);
        edges.asks(Scene.full(), "ofPerson(23, 5), 39", h -> h.ofPerson(23, 5), 39);
        for (int state = 0; state <= 3; state++) {
            edges.asks(Scene.inState(state), "ofPerson(0, 5), in state " + state, h -> h.ofPerson(0, 5), 0);
        }
    }

    private static void days() {
        edges.sentence("As a DAY begins, FATIGUE of all is 1 less, if it is above 0.");
        for (int fatigue = 0; fatigue <= 6; fatigue++) {
            edges.due(tired(fatigue, 1), "ofPerson(0, 2)", h -> h.ofPerson(0, 2), fatigue);
            edges.due(tired(fatigue, 1).days(1), "ofPerson(0, 2), a DAY later",
                    h -> h.ofPerson(0, 2), Math.max(0, fatigue - 1));
        }
        edges.due(tired(6, 1).days(9), "ofPerson(0, 2), 9 DAYS later", h -> h.ofPerson(0, 2), 0);
        Scene all = Scene.of(1, 24, 9);
        for (int k = 0; k < 24; k++) {
            all = all.begin(k);
        }
        for (int k = 0; k < 24; k++) {
            int person = k;
            edges.due(all.days(1), "ofPerson(" + k + ", 2)", h -> h.ofPerson(person, 2), 1);
        }
        edges.sentence("Returns the DAY.");
        edges.due(Scene.empty(), "day(), nobody", h -> h.day(), 1);
        edges.due(Scene.of(1, 2, 1).days(1), "day()", h -> h.day(), 2);
        edges.due(Scene.of(1, 2, 1).days(9), "day()", h -> h.day(), 10);
    }

    private static void nextIn() {
        edges.sentence("Throws `IllegalArgumentException` if days is not 0 to 9");
        edges.bounds(Scene.of(1, 1, 1), "nextIn(#)", 0, 9, Edges.ARGUMENT, (h, n) -> h.nextIn(n));
        edges.bounds(Scene.empty().days(9), "nextIn(#)", 0, 9, Edges.ARGUMENT, (h, n) -> h.nextIn(n));
        edges.sentence("Returns who would be NEXT behind so many; NONE without one.");
        edges.asks(Scene.empty(), "nextIn(0), nobody", h -> h.nextIn(0), -1);
        edges.asks(Scene.empty(), "nextIn(9), nobody", h -> h.nextIn(9), -1);
        edges.asks(Scene.of(1, 1, 0), "nextIn(9), not OPEN", h -> h.nextIn(9), -1);
        edges.asks(Scene.of(1, 1, 1).begin(0), "nextIn(9), RUNNING", h -> h.nextIn(9), -1);
        for (int fatigue = 4; fatigue <= 6; fatigue++) {
            int least = fatigue - 4;
            for (int days = 0; days <= 9; days++) {
                int in = days;
                edges.asks(tired(fatigue, 1), "nextIn(" + in + "), FATIGUE " + fatigue,
                        h -> h.nextIn(in), in < least ? -1 : 0);
            }
        }
        for (int days = 0; days <= 9; days++) {
            int in = days;
            edges.asks(tired(2, 2), "nextIn(" + in + "), FATIGUE 2 and 0", h -> h.nextIn(in), in < 2 ? 1 : 0);
            edges.asks(tire(tired(4, 2), 1), "nextIn(" + in + "), FATIGUE 4 and 2", h -> h.nextIn(in), in < 4 ? 1 : 0);
            edges.asks(tire(tired(6, 2), 1), "nextIn(" + in + "), FATIGUE 6 and 2", h -> h.nextIn(in), in < 6 ? 1 : 0);
        }
    }

    public static void main(String[] args) {
        twentyFourPeople();
        traits();
        targets();
        softs();
        filled();
        openByTarget();
        openBySoft();
        canBeAsked();
        nextByLack();
        nextByFatigue();
        ofCells();
        ofPeople();
        days();
        nextIn();
        edges.end();
    }
}
