import java.util.ArrayList;
import java.util.List;
import java.util.TreeSet;

/**
 * The document once more, as slow and as plain as its words: nothing is kept that can be counted anew, and
 * what would be is found out by doing it to a copy. ModelTest holds SurveyHouse against it.
 */
final class Model {
    static final class Person {
        int a;
        int b;
        int fatigue;
        int points;
    }

    static final class Interview {
        int person;
        String state = "RUNNING";
        List<Integer> asked = new ArrayList<>();
        List<Integer> answers = new ArrayList<>();
        List<Integer> seconds = new ArrayList<>();
        int at;
        long weight;
    }

    List<Integer> questions = new ArrayList<>();
    List<int[]> routes = new ArrayList<>();
    int rotation = 0;
    List<Person> people = new ArrayList<>();
    List<Interview> interviews = new ArrayList<>();
    int[][] targets = new int[3][2];
    int soft = 0;
    int day = 0;
    int rounds = 3;
    List<List<List<Integer>>> reports = new ArrayList<>();

    Model copy() {
        Model m = new Model();
        m.questions = new ArrayList<>(questions);
        m.routes = new ArrayList<>(routes);
        m.rotation = rotation;
        for (Person p : people) {
            Person q = new Person();
            q.a = p.a;
            q.b = p.b;
            q.fatigue = p.fatigue;
            q.points = p.points;
            m.people.add(q);
        }
        for (Interview i : interviews) {
            Interview j = new Interview();
            j.person = i.person;
            j.state = i.state;
            j.asked = new ArrayList<>(i.asked);
            j.answers = new ArrayList<>(i.answers);
            j.seconds = new ArrayList<>(i.seconds);
            j.at = i.at;
            m.interviews.add(j);
        }
        for (int a = 0; a < 3; a++) {
            m.targets[a] = targets[a].clone();
        }
        m.soft = soft;
        m.day = day;
        m.rounds = rounds;
        m.reports = new ArrayList<>(reports);
        return m;
    }

    static void index(boolean good) {
        if (!good) {
            throw new IndexOutOfBoundsException();
        }
    }

    static void argument(boolean good) {
        if (!good) {
            throw new IllegalArgumentException();
        }
    }

    static void state(boolean good) {
        if (!good) {
            throw new IllegalStateException();
        }
    }

    static boolean in(int x, int from, int to) {
        return from <= x && x <= to;
    }

    boolean isQuestion(int q) {
        return in(q, 0, questions.size() - 1);
    }

    boolean isAnswer(int q, int a) {
        return isQuestion(q) && in(a, 0, questions.get(q) - 1);
    }

    int question(int answers) {
        argument(in(answers, 2, 5));
        state(questions.size() != 10 && interviews.isEmpty());
        questions.add(answers);
        return questions.size() - 1;
    }

    int route(int question, int answer, int to) {
        index(isAnswer(question, answer) && (to == -1 || isQuestion(to)));
        argument(to == -1 || to > question);
        state(interviews.isEmpty());
        int old = behind(question, answer);
        routes.add(new int[] {question, answer, to});
        return old;
    }

    int rotate(int r) {
        argument(in(r, 0, 3) && r <= questions.size());
        state(interviews.isEmpty());
        int old = rotation;
        rotation = r;
        return old;
    }

    int behind(int question, int answer) {
        index(isAnswer(question, answer));
        for (int k = routes.size() - 1; k >= 0; k--) {
            if (routes.get(k)[0] == question && routes.get(k)[1] == answer) {
                return routes.get(k)[2];
            }
        }
        return isQuestion(question + 1) ? question + 1 : -1;
    }

    int person(int a, int b) {
        argument(in(a, 0, 2) && in(b, 0, 1));
        state(people.size() != 24);
        Person p = new Person();
        p.a = a;
        p.b = b;
        people.add(p);
        return people.size() - 1;
    }

    int target(int a, int b, int t) {
        index(in(a, 0, 2) && in(b, 0, 1));
        argument(in(t, 0, 9));
        int old = targets[a][b];
        targets[a][b] = t;
        return old;
    }

    int soft(int s) {
        argument(in(s, 0, 3));
        int old = soft;
        soft = s;
        return old;
    }

    int filled(int a, int b) {
        int n = 0;
        for (Interview i : interviews) {
            Person p = people.get(i.person);
            if (i.state.equals("COMPLETE") && p.a == a && p.b == b) {
                n++;
            }
        }
        return n;
    }

    boolean isOpen(int a, int b) {
        int allFilled = 0;
        int allTargets = 0;
        for (int x = 0; x < 3; x++) {
            for (int y = 0; y < 2; y++) {
                allFilled += filled(x, y);
                allTargets += targets[x][y];
            }
        }
        boolean hard = filled(a, b) < targets[a][b];
        boolean softly = filled(a, b) < targets[a][b] + soft && allFilled < allTargets;
        return hard || softly;
    }

    boolean canBeAsked(int p) {
        for (Interview i : interviews) {
            if (i.person == p && (i.state.equals("RUNNING") || i.state.equals("COMPLETE"))) {
                return false;
            }
        }
        return people.get(p).fatigue <= 4 && isOpen(people.get(p).a, people.get(p).b);
    }

    int ofCell(int a, int b, int what) {
        index(in(a, 0, 2) && in(b, 0, 1));
        argument(in(what, 0, 4));
        int n = 0;
        int asked = 0;
        for (int p = 0; p < people.size(); p++) {
            if (people.get(p).a == a && people.get(p).b == b) {
                n++;
                asked += canBeAsked(p) ? 1 : 0;
            }
        }
        return new int[] {targets[a][b], filled(a, b), isOpen(a, b) ? 1 : 0, n, asked}[what];
    }

    int ofPerson(int person, int what) {
        index(in(person, 0, people.size() - 1));
        argument(in(what, 0, 5));
        int latest = -1;
        for (int i = 0; i < interviews.size(); i++) {
            if (interviews.get(i).person == person) {
                latest = i;
            }
        }
        Person p = people.get(person);
        return new int[] {p.a, p.b, p.fatigue, p.points, canBeAsked(person) ? 1 : 0, latest}[what];
    }

    int next() {
        // In a tree: what the cell lacks, the most first; then the fatigue; then the number.
        TreeSet<int[]> order = new TreeSet<>((x, y) -> {
            for (int k = 0; k < 3; k++) {
                if (x[k] != y[k]) {
                    return Integer.compare(x[k], y[k]);
                }
            }
            return 0;
        });
        for (int k = 0; k < people.size(); k++) {
            Person p = people.get(k);
            if (canBeAsked(k)) {
                order.add(new int[] {filled(p.a, p.b) - targets[p.a][p.b], p.fatigue, k});
            }
        }
        return order.isEmpty() ? -1 : order.first()[2];
    }

    int day() {
        for (Person p : people) {
            if (p.fatigue > 0) {
                p.fatigue--;
            }
        }
        return ++day;
    }

    int begin(int person) {
        index(in(person, 0, people.size() - 1));
        state(canBeAsked(person) && !questions.isEmpty() && interviews.size() != 40);
        Person p = people.get(person);
        p.fatigue = p.fatigue + 2 > 9 ? 9 : p.fatigue + 2;
        Interview i = new Interview();
        i.person = person;
        interviews.add(i);
        i.at = ahead(interviews.size() - 1).get(0);
        return interviews.size() - 1;
    }

    /** The QUESTIONS of the ROTATION in the order of that INTERVIEW, and the first one behind them. */
    List<Integer> ahead(int interview) {
        List<Integer> order = new ArrayList<>();
        for (int k = 0; k < rotation; k++) {
            order.add(k);
        }
        for (int k = 0; rotation > 0 && k < interview % rotation; k++) {
            order.add(order.remove(0));
        }
        order.add(rotation < questions.size() ? rotation : -1);
        return order;
    }

    int answer(int interview, int answer, int seconds) {
        index(in(interview, 0, interviews.size() - 1));
        Interview i = interviews.get(interview);
        state(i.state.equals("RUNNING"));
        argument(isAnswer(i.at, answer) && in(seconds, 1, 99));
        i.asked.add(i.at);
        i.answers.add(answer);
        i.seconds.add(seconds);
        List<Integer> order = ahead(interview);
        i.at = i.asked.size() < order.size() ? order.get(i.asked.size()) : behind(i.at, answer);
        if (i.at == -1) {
            Person p = people.get(i.person);
            boolean open = isOpen(p.a, p.b);
            i.state = open ? "COMPLETE" : "OUT";
            p.points += open ? 10 : 2;
        }
        return i.at;
    }

    static int total(List<Integer> numbers) {
        int t = 0;
        for (int n : numbers) {
            t += n;
        }
        return t;
    }

    boolean isToClean(Interview i) {
        boolean fast = total(i.seconds) < 3 * i.answers.size();
        boolean straight = i.answers.size() >= 4 && new TreeSet<>(i.answers).size() == 1;
        return i.state.equals("COMPLETE") && (fast || straight);
    }

    int ofInterview(int interview, int what) {
        index(in(interview, 0, interviews.size() - 1));
        argument(in(what, 0, 6));
        Interview i = interviews.get(interview);
        if (what == 5) {
            weigh(rounds);
        }
        switch (what) {
            case 0: return i.person;
            case 1: return List.of("RUNNING", "COMPLETE", "OUT", "CLEANED").indexOf(i.state);
            case 2: return i.state.equals("RUNNING") ? i.at : -1;
            case 3: return i.answers.size();
            case 4: return total(i.seconds);
            case 5: return i.state.equals("COMPLETE") ? (int) i.weight : 0;
            default: return isToClean(i) ? 1 : 0;
        }
    }

    int given(int interview, int question) {
        index(in(interview, 0, interviews.size() - 1) && isQuestion(question));
        Interview i = interviews.get(interview);
        int k = i.asked.indexOf(question);
        return k < 0 ? -1 : i.answers.get(k);
    }

    int clean() {
        int n = 0;
        for (Interview i : interviews) {
            if (isToClean(i)) {
                i.state = "CLEANED";
                people.get(i.person).points -= 10;
                n++;
            }
        }
        return n;
    }

    int many(int what) {
        argument(in(what, 0, 11));
        if (what >= 2 && what <= 5) {
            int n = 0;
            for (int i = 0; i < interviews.size(); i++) {
                n += ofInterview(i, 1) == what - 2 ? 1 : 0;
            }
            return n;
        }
        int t = 0;
        int open = 0;
        int asked = 0;
        for (int a = 0; a < 3; a++) {
            for (int b = 0; b < 2; b++) {
                t += targets[a][b];
                open += ofCell(a, b, 2);
                asked += ofCell(a, b, 4);
            }
        }
        int points = 0;
        for (Person p : people) {
            points += p.points;
        }
        return new int[] {questions.size(), people.size(), 0, 0, 0, 0, t, open, asked, points, reports.size(), day}[what];
    }

    int rounds(int r) {
        argument(in(r, 0, 9));
        int old = rounds;
        rounds = r;
        return old;
    }

    List<Interview> complete(int a, int b) {
        List<Interview> l = new ArrayList<>();
        for (Interview i : interviews) {
            Person p = people.get(i.person);
            if (i.state.equals("COMPLETE") && (a == -1 || p.a == a) && (b == -1 || p.b == b)) {
                l.add(i);
            }
        }
        return l;
    }

    static long weightOf(List<Interview> l) {
        long w = 0;
        for (Interview i : l) {
            w += i.weight;
        }
        return w;
    }

    long margin(int a, int b) {
        long t = 0;
        for (int x = 0; x < 3; x++) {
            for (int y = 0; y < 2; y++) {
                t += (a == -1 || a == x) && (b == -1 || b == y) ? targets[x][y] : 0;
            }
        }
        return 1000 * t;
    }

    void raise(int a, int b) {
        long sum = weightOf(complete(a, b));
        if (sum == 0) {
            return;
        }
        for (Interview i : complete(a, b)) {
            i.weight = i.weight * margin(a, b) / sum;
        }
    }

    void weigh(int r) {
        for (Interview i : complete(-1, -1)) {
            i.weight = 1000;
        }
        for (int k = 0; k < r; k++) {
            raise(0, -1);
            raise(1, -1);
            raise(2, -1);
            raise(-1, 0);
            raise(-1, 1);
        }
    }

    long off(int a, int b) {
        long sum = weightOf(complete(a, b));
        return sum == 0 ? 0 : Math.abs(sum - margin(a, b));
    }

    int off() {
        weigh(rounds);
        long far = Math.max(Math.max(off(0, -1), off(1, -1)), off(2, -1));
        return (int) Math.max(far, Math.max(off(-1, 0), off(-1, 1)));
    }

    List<Interview> answered(int question, int a) {
        List<Interview> l = complete(a, -1);
        l.removeIf(i -> !i.asked.contains(question));
        return l;
    }

    int share(int question, int answer, int a) {
        index(isAnswer(question, answer) && in(a, -1, 2));
        weigh(rounds);
        List<Interview> all = answered(question, a);
        List<Interview> those = new ArrayList<>(all);
        those.removeIf(i -> i.answers.get(i.asked.indexOf(question)) != answer);
        return weightOf(all) == 0 ? -1 : (int) (100 * weightOf(those) / weightOf(all));
    }

    boolean isMarked(int question, int answer, int a, int other) {
        index(isAnswer(question, answer) && in(a, 0, 2) && in(other, 0, 2));
        argument(a != other);
        int x = share(question, answer, a);
        int y = share(question, answer, other);
        boolean enough = answered(question, a).size() >= 3 && answered(question, other).size() >= 3;
        return enough && x != -1 && y != -1 && (x - y >= 30 || y - x >= 30);
    }

    int hold() {
        state(reports.size() != 5);
        List<List<Integer>> report = new ArrayList<>();
        for (int q = 0; q < questions.size(); q++) {
            List<Integer> row = new ArrayList<>();
            for (int a = 0; a < questions.get(q); a++) {
                row.add(share(q, a, -1));
            }
            report.add(row);
        }
        reports.add(report);
        return reports.size() - 1;
    }

    int held(int report, int question, int answer) {
        index(in(report, 0, reports.size() - 1) && isAnswer(question, answer));
        List<List<Integer>> r = reports.get(report);
        return question < r.size() ? r.get(question).get(answer) : -1;
    }

    double meanSeconds() {
        List<Integer> all = new ArrayList<>();
        for (Interview i : complete(-1, -1)) {
            all.addAll(i.seconds);
        }
        return all.isEmpty() ? 0 : (double) total(all) / all.size();
    }

    int cleaned() {
        Model then = copy();
        int n = then.clean();
        for (int a = 0; a < 3; a++) {
            for (int b = 0; b < 2; b++) {
                n += then.isOpen(a, b) && !isOpen(a, b) ? 100 : 0;
            }
        }
        return n;
    }

    int nextIn(int days) {
        argument(in(days, 0, 9));
        Model then = copy();
        for (int k = 0; k < days; k++) {
            then.day();
        }
        return then.next();
    }

    int offWith(int r) {
        argument(in(r, 0, 9));
        Model then = copy();
        then.rounds = r;
        return then.off();
    }

    int shortest(int question) {
        index(isQuestion(question));
        int least = Integer.MAX_VALUE;
        TreeSet<Integer> ways = new TreeSet<>();
        for (int a = 0; a < questions.get(question); a++) {
            ways.add(behind(question, a));
        }
        for (int to : ways) {
            least = Math.min(least, to == -1 ? 1 : 1 + shortest(to));
        }
        return least;
    }

    long digest() {
        List<Long> v = new ArrayList<>();
        for (int w = 0; w <= 11; w++) {
            v.add((long) many(w));
        }
        for (int c = 0; c < 6; c++) {
            for (int w = 0; w <= 4; w++) {
                v.add((long) ofCell(c / 2, c % 2, w));
            }
        }
        for (int p = 0; p < people.size(); p++) {
            for (int w = 0; w <= 5; w++) {
                v.add((long) ofPerson(p, w));
            }
        }
        for (int i = 0; i < interviews.size(); i++) {
            for (int w = 0; w <= 6; w++) {
                v.add((long) ofInterview(i, w));
            }
            for (int q = 0; q < questions.size(); q++) {
                v.add((long) given(i, q));
            }
        }
        for (int q = 0; q < questions.size(); q++) {
            for (int a = 0; a < questions.get(q); a++) {
                v.add((long) share(q, a, -1));
            }
            v.add((long) shortest(q));
        }
        v.add((long) next());
        v.add((long) off());
        v.add((long) cleaned());
        v.add((long) nextIn(3));
        long d = 58114;
        for (long x : v) {
            d = d * 31 + x;
        }
        return d;
    }
}
