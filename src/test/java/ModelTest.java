import java.util.ArrayList;
import java.util.List;
import java.util.TreeMap;

/**
 * Long runs of calls, good and wrong ones, on SurveyHouse and on the Model beside it: each answers the same.
 * The runs come from a fixed row of numbers, so that they are the same each time.
 */
public final class ModelTest {
    private static final int RUNS = 1500;
    private static final int CALLS = 512;

    private static final Check check = new Check("ModelTest");
    /** How often something was met that the runs are to meet. */
    private static final TreeMap<String, Integer> met = new TreeMap<>();

    private static long seed = 20261119;

    private SurveyHouse house = new SurveyHouse();
    private Model model = new Model();
    private final List<String> calls = new ArrayList<>();
    private final int run;
    private final int kind;

    private ModelTest(int run) {
        this.run = run;
        this.kind = run % 6;
    }

    private static int roll(int sides) {
        seed = seed * 6364136223846793005L + 1442695040888963407L;
        return (int) ((seed >>> 33) % sides);
    }

    private static boolean chance(int percent) {
        return roll(100) < percent;
    }

    /** A number from 0 to below sides; now and then one that is out of that, or at the edge of all numbers. */
    private static int about(int sides) {
        if (chance(94) && sides > 0) {
            return roll(sides);
        }
        switch (roll(5)) {
            case 0: return -1;
            case 1: return sides;
            case 2: return -2;
            case 3: return chance(50) ? Integer.MAX_VALUE : Integer.MIN_VALUE;
            default: return sides + 1;
        }
    }

    private static void meet(String what) {
        met.merge(what, 1, Integer::sum);
    }

    private boolean isSpent() {
        return calls.size() >= CALLS || !check.isClean();
    }

    private String same(String name, Check.Call real, Check.Call due, int... arguments) {
        if (isSpent()) {
            return "";
        }
        StringBuilder text = new StringBuilder(name).append('(');
        for (int k = 0; k < arguments.length; k++) {
            text.append(k == 0 ? "" : ", ").append(arguments[k]);
        }
        String call = text.append(')').toString();
        calls.add(call);
        String want = Check.outcome(due);
        String got = Check.outcome(real);
        if (got.equals(want)) {
            check.due(call, 0, 0);
        } else {
            check.tell("run " + run + " of " + calls, got, want);
        }
        meet(name);
        if (want.startsWith("throws")) {
            meet(name + " " + want);
        }
        return got;
    }

    private void digest() {
        same("digest", () -> house.digest(), () -> model.digest());
    }

    private void write() {
        int count = kind == 0 ? 1 + roll(2) : kind == 1 ? 10 : roll(11);
        for (int k = 0; k < count; k++) {
            int answers = chance(95) ? 2 + roll(4) : about(6);
            same("question", () -> house.question(answers), () -> model.question(answers), answers);
        }
        int ways = chance(30) ? 0 : roll(15);
        for (int k = 0; k < ways; k++) {
            route();
        }
        if (chance(70)) {
            rotate();
        }
        if (chance(10)) {
            hold();
            int more = 2 + roll(4);
            same("question", () -> house.question(more), () -> model.question(more), more);
        }
    }

    private int anyQuestion() {
        return about(model.questions.size());
    }

    private int anyAnswer(int question) {
        return about(model.isQuestion(question) ? model.questions.get(question) : 3);
    }

    private void route() {
        int q = anyQuestion();
        int a = anyAnswer(q);
        int to = chance(30) ? -1 : chance(80) && q < 10 ? q + 1 + roll(4) : anyQuestion();
        same("route", () -> house.route(q, a, to), () -> model.route(q, a, to), q, a, to);
        behind();
    }

    private void behind() {
        int q = anyQuestion();
        int a = anyAnswer(q);
        same("behind", () -> house.behind(q, a), () -> model.behind(q, a), q, a);
    }

    private void rotate() {
        int r = about(4);
        same("rotate", () -> house.rotate(r), () -> model.rotate(r), r);
    }

    private void fillPanel() {
        int count = kind == 0 || kind == 1 ? 24 : roll(26);
        int narrow = roll(4);
        for (int k = 0; k < count; k++) {
            person(narrow);
        }
        for (int k = 0; k < 6; k++) {
            int a = k / 2;
            int b = k % 2;
            int t = chance(75) ? (kind == 2 ? roll(3) : roll(10)) : 0;
            same("target", () -> house.target(a, b, t), () -> model.target(a, b, t), a, b, t);
        }
        if (chance(60)) {
            soft();
        }
    }

    private void person(int narrow) {
        int a = narrow == 0 ? roll(2) : about(3);
        int b = narrow <= 1 ? 0 : about(2);
        same("person", () -> house.person(a, b), () -> model.person(a, b), a, b);
    }

    private void target() {
        int a = about(3);
        int b = about(2);
        int t = about(10);
        same("target", () -> house.target(a, b, t), () -> model.target(a, b, t), a, b, t);
    }

    private void soft() {
        int s = about(4);
        same("soft", () -> house.soft(s), () -> model.soft(s), s);
    }

    private void rounds() {
        int r = about(10);
        same("rounds", () -> house.rounds(r), () -> model.rounds(r), r);
    }

    private void begin() {
        int next = model.next();
        int p = chance(80) && next >= 0 ? next : about(model.people.size());
        same("begin", () -> house.begin(p), () -> model.begin(p), p);
    }

    /** Most often one that is RUNNING. */
    private int anyInterview() {
        List<Integer> running = new ArrayList<>();
        for (int k = 0; k < model.interviews.size(); k++) {
            if (model.interviews.get(k).state.equals("RUNNING")) {
                running.add(k);
            }
        }
        return running.isEmpty() || chance(5) ? about(model.interviews.size()) : running.get(roll(running.size()));
    }

    private void answer() {
        int interview = anyInterview();
        boolean known = interview >= 0 && interview < model.interviews.size();
        int at = known ? model.interviews.get(interview).at : 0;
        boolean straight = (interview + run) % 4 == 0;
        int a = straight && chance(97) ? interview & 1 : anyAnswer(at);
        boolean fast = (interview + run) % 5 == 1 || kind == 0 && interview % 2 == 0;
        int s = fast ? 1 + roll(5) : chance(97) ? 2 + roll(20) : about(100);
        String got = same("answer", () -> house.answer(interview, a, s), () -> model.answer(interview, a, s),
                interview, a, s);
        if (got.equals("-1")) {
            meet("END " + model.interviews.get(interview).state);
        }
    }

    private void ask() {
        int q = anyQuestion();
        int a = anyAnswer(q);
        int x = about(3);
        int y = about(3);
        int p = about(model.people.size());
        int i = about(model.interviews.size());
        switch (roll(14)) {
            case 0: {
                int w = about(5);
                int b = about(2);
                same("ofCell", () -> house.ofCell(x, b, w), () -> model.ofCell(x, b, w), x, b, w);
                break;
            }
            case 1: {
                int w = about(6);
                same("ofPerson", () -> house.ofPerson(p, w), () -> model.ofPerson(p, w), p, w);
                break;
            }
            case 2: {
                int w = about(7);
                same("ofInterview", () -> house.ofInterview(i, w), () -> model.ofInterview(i, w), i, w);
                break;
            }
            case 3:
                same("given", () -> house.given(i, q), () -> model.given(i, q), i, q);
                break;
            case 4: {
                int w = about(12);
                same("many", () -> house.many(w), () -> model.many(w), w);
                break;
            }
            case 5:
                same("off", () -> house.off(), () -> model.off());
                break;
            case 6: {
                int t = chance(30) ? -1 : x;
                same("share", () -> house.share(q, a, t), () -> model.share(q, a, t), q, a, t);
                break;
            }
            case 7:
            case 8: {
                String got = same("isMarked", () -> house.isMarked(q, a, x, y), () -> model.isMarked(q, a, x, y),
                        q, a, x, y);
                meet("isMarked " + got);
                break;
            }
            case 9: {
                int r = about(model.reports.size());
                same("held", () -> house.held(r, q, a), () -> model.held(r, q, a), r, q, a);
                break;
            }
            case 10:
                same("meanSeconds", () -> house.meanSeconds(), () -> model.meanSeconds());
                break;
            case 11:
                behind();
                break;
            case 12:
                same("shortest", () -> house.shortest(q), () -> model.shortest(q), q);
                break;
            default:
                same("next", () -> house.next(), () -> model.next());
        }
    }

    private void wouldBe() {
        int n = about(10);
        switch (roll(3)) {
            case 0: {
                String got = same("cleaned", () -> house.cleaned(), () -> model.cleaned());
                if (got.length() >= 3) {
                    meet("cleaned opens");
                }
                break;
            }
            case 1:
                same("nextIn", () -> house.nextIn(n), () -> model.nextIn(n), n);
                break;
            default:
                same("offWith", () -> house.offWith(n), () -> model.offWith(n), n);
        }
    }

    private void hold() {
        same("hold", () -> house.hold(), () -> model.hold());
    }

    private void clean() {
        String got = same("clean", () -> house.clean(), () -> model.clean());
        if (!got.equals("0") && !got.isEmpty()) {
            meet("clean some");
        }
    }

    /** Goes on with the interviews as long as there is one to answer or to begin; otherwise makes room for more. */
    private void interview() {
        boolean running = model.many(2) > 0;
        boolean isNext = model.next() >= 0;
        if (running && (!isNext || chance(75)) || chance(4)) {
            answer();
        } else if (isNext || chance(4)) {
            begin();
        } else if (chance(30)) {
            same("day", () -> house.day(), () -> model.day());
        } else if (chance(60)) {
            clean();
        } else if (chance(30)) {
            target();
        } else {
            ask();
        }
    }

    private void step() {
        int what = roll(100);
        if (what < 66) {
            interview();
        } else if (what < 70) {
            same("day", () -> house.day(), () -> model.day());
        } else if (what < (kind == 0 ? 78 : 73)) {
            clean();
        } else if (what < 75) {
            target();
        } else if (what < 76) {
            soft();
        } else if (what < 77) {
            rounds();
        } else if (what < 78) {
            hold();
        } else if (what < 79) {
            odd();
        } else if (what < 93) {
            ask();
        } else if (what < 97) {
            wouldBe();
        } else {
            digest();
        }
    }

    /** Calls that are seldom due in the midst of a run. */
    private void odd() {
        int n = about(6);
        switch (roll(4)) {
            case 0:
                same("question", () -> house.question(n), () -> model.question(n), n);
                break;
            case 1:
                route();
                break;
            case 2:
                rotate();
                break;
            default:
                person(3);
        }
    }

    private void go() {
        if (chance(50)) {
            write();
            fillPanel();
        } else {
            fillPanel();
            write();
        }
        while (!isSpent()) {
            step();
        }
        if (model.interviews.size() == 40) {
            meet("40 INTERVIEWS");
        }
    }

    /** A run that never comes upon these would say nothing about them. */
    private static void needMet() {
        String[] index = {"route", "behind", "target", "ofCell", "ofPerson", "begin", "answer", "ofInterview",
            "given", "share", "isMarked", "held", "shortest"};
        String[] argument = {"question", "route", "rotate", "person", "target", "soft", "ofCell", "ofPerson", "answer",
            "ofInterview", "many", "rounds", "isMarked", "nextIn", "offWith"};
        String[] state = {"question", "route", "rotate", "person", "begin", "answer", "hold"};
        List<String> needed = new ArrayList<>(List.of("END COMPLETE", "END OUT", "isMarked true", "isMarked false",
            "cleaned opens", "clean some", "40 INTERVIEWS"));
        for (String name : index) {
            needed.add(name + " throws " + Check.INDEX.getName());
        }
        for (String name : argument) {
            needed.add(name + " throws " + Check.ARGUMENT.getName());
        }
        for (String name : state) {
            needed.add(name + " throws " + Check.STATE.getName());
        }
        for (String what : needed) {
            if (met.getOrDefault(what, 0) < 10) {
                check.tell("the runs together", what + " " + met.getOrDefault(what, 0) + " times", "10 times");
            }
        }
    }

    public static void main(String[] args) {
        for (int run = 1; run <= RUNS && check.isClean(); run++) {
            new ModelTest(run).go();
        }
        if (args.length > 0) {
            System.out.println(met);
        }
        if (check.isClean()) {
            needMet();
        }
        check.end();
    }
}
