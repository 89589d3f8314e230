import java.util.ArrayList;
import java.util.List;

/**
 * A way to a state of a house: single calls, made again on a new house each time that it is looked at, so that
 * no house is ever asked more than its 512 calls. A Scene does not change; each method gives a longer one.
 */
final class Scene {
    interface Call {
        Object on(SurveyHouse house);
    }

    private final List<Call> calls;
    private final int begun;
    private List<String> seen;

    private Scene(List<Call> calls, int begun) {
        this.calls = calls;
        this.begun = begun;
    }

    static Scene empty() {
        return new Scene(new ArrayList<>(), 0);
    }

    /** So many QUESTIONS of 2 ANSWERS, so many PEOPLE of A 0 and B 0, and that TARGET for their CELL. */
    static Scene of(int questions, int people, int target) {
        Scene scene = empty();
        for (int k = 0; k < questions; k++) {
            scene = scene.questions(2);
        }
        return scene.people(0, 0, people).target(0, 0, target);
    }

    /** Two QUESTIONS and one INTERVIEW, of PERSON 0: RUNNING, COMPLETE, OUT, or CLEANED, by its number. */
    static Scene inState(int state) {
        Scene ready = of(2, 1, 1);
        switch (state) {
            case 0:
                return ready.begin(0);
            case 1:
                return ready.interview(0, 5, 0, 1);
            case 2:
                return ready.begin(0).target(0, 0, 0).answers(0, 5, 0, 1).target(0, 0, 1);
            default:
                return ready.interview(0, 1, 0, 1).clean();
        }
    }

    /**
     * All that goes into a house: 10 QUESTIONS, 24 PEOPLE, a TARGET of 9 for each CELL, 40 INTERVIEWS, 5 reports.
     * 16 INTERVIEWS are CLEANED, of the others two are RUNNING, two OUT, and 20 COMPLETE: one of these with an ANSWER
     * to each QUESTION in 4 SECONDS each, nine with one in 3 SECONDS, ten with two in 4 SECONDS each.
     */
    static Scene full() {
        Scene scene = empty().questions(5, 4, 3, 2, 5, 4, 3, 2, 5, 5).route(0, 4, -1).route(0, 3, 9).route(9, 1, -1);
        for (int k = 0; k < 24; k++) {
            scene = scene.people(k % 3, k % 2, 1);
        }
        scene = scene.everywhere(9);
        for (int k = 0; k < 16; k++) {
            scene = scene.interview(k, 2, 4);
        }
        scene = scene.clean();
        for (int k = 0; k < 20; k++) {
            scene = k == 18 ? scene.interview(k, 4, 0, 1, 2, 1, 0, 1, 2, 1, 0, 4)
                    : k % 2 == 0 ? scene.interview(k, 3, 4) : scene.interview(k, 4, 3, k % 4);
        }
        scene = scene.begin(20).begin(21).begin(22).begin(23);
        for (int k = 0; k < 5; k++) {
            scene = scene.then(h -> h.hold());
        }
        return scene.everywhere(0).answer(36, 4, 5).answer(37, 4, 5).everywhere(9).answer(38, 0, 1).answer(38, 1, 99);
    }

    Scene then(Call call) {
        return longer(call, begun);
    }

    private Scene longer(Call call, int begunThen) {
        List<Call> more = new ArrayList<>(calls);
        more.add(call);
        return new Scene(more, begunThen);
    }

    Scene questions(int... answers) {
        Scene scene = this;
        for (int count : answers) {
            scene = scene.then(h -> h.question(count));
        }
        return scene;
    }

    Scene route(int question, int answer, int to) {
        return then(h -> h.route(question, answer, to));
    }

    Scene rotate(int rotation) {
        return then(h -> h.rotate(rotation));
    }

    Scene people(int a, int b, int count) {
        Scene scene = this;
        for (int k = 0; k < count; k++) {
            scene = scene.then(h -> h.person(a, b));
        }
        return scene;
    }

    Scene target(int a, int b, int target) {
        return then(h -> h.target(a, b, target));
    }

    /** That TARGET for each CELL. */
    Scene everywhere(int target) {
        return target(0, 0, target).target(0, 1, target).target(1, 0, target).target(1, 1, target)
                .target(2, 0, target).target(2, 1, target);
    }

    Scene soft(int soft) {
        return then(h -> h.soft(soft));
    }

    Scene rounds(int rounds) {
        return then(h -> h.rounds(rounds));
    }

    Scene days(int days) {
        Scene scene = this;
        for (int k = 0; k < days; k++) {
            scene = scene.then(h -> h.day());
        }
        return scene;
    }

    Scene begin(int person) {
        return longer(h -> h.begin(person), begun + 1);
    }

    Scene answer(int interview, int answer, int seconds) {
        return then(h -> h.answer(interview, answer, seconds));
    }

    /** ANSWERS that take so many SECONDS each. */
    Scene answers(int interview, int seconds, int... answers) {
        Scene scene = this;
        for (int answer : answers) {
            scene = scene.answer(interview, answer, seconds);
        }
        return scene;
    }

    /** A PERSON is ASKED, and gives these ANSWERS. */
    Scene interview(int person, int seconds, int... answers) {
        return begin(person).answers(begun, seconds, answers);
    }

    Scene clean() {
        return then(h -> h.clean());
    }

    int size() {
        return calls.size();
    }

    SurveyHouse house() {
        SurveyHouse house = new SurveyHouse();
        for (Call call : calls) {
            call.on(house);
        }
        return house;
    }

    /** All that is to be seen there. */
    List<String> seen() {
        if (seen == null) {
            seen = Looks.at(this, null);
        }
        return seen;
    }
}
