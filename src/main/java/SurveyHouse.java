import java.util.Arrays;

/**
 * A house of surveys: a questionnaire, a panel with quotas, interviews, weights, tables and reports.
 *
 * <p>Each public method keeps the promise of its name in the document; words in capitals are its terms.
 * A method looks at its arguments first, in the order of the document's exceptions, and changes something
 * only behind that; what stands inside gets numbers that have been looked at.
 */
public final class SurveyHouse {
    private static final int NONE = -1;

    private static final int MOST_QUESTIONS = 10;
    private static final int LEAST_ANSWERS = 2;
    private static final int MOST_ANSWERS = 5;
    private static final int MOST_ROTATION = 3;

    private static final int TRAITS_A = 3;
    private static final int TRAITS_B = 2;
    private static final int CELLS = TRAITS_A * TRAITS_B;
    /** A group is one A (0 to 2) or, behind these, one B (3 and 4). */
    private static final int GROUPS = TRAITS_A + TRAITS_B;
    private static final int MOST_TARGET = 9;
    private static final int MOST_SOFT = 3;

    private static final int MOST_PEOPLE = 24;
    private static final int MOST_FATIGUE = 9;
    private static final int MOST_FATIGUE_TO_ASK = 4;
    private static final int FATIGUE_OF_ASKING = 2;
    private static final int POINTS_COMPLETE = 10;
    private static final int POINTS_OUT = 2;

    private static final int MOST_INTERVIEWS = 40;
    private static final int RUNNING = 0;
    private static final int COMPLETE = 1;
    private static final int OUT = 2;
    private static final int CLEANED = 3;
    private static final int MOST_SECONDS = 99;
    private static final int LEAST_SECONDS_EACH = 3;
    private static final int ANSWERS_OF_A_LINE = 4;

    private static final int FIRST_WEIGHT = 1000;
    private static final int MOST_ROUNDS = 9;
    private static final int LEAST_TO_MARK = 3;
    private static final int SHARES_APART = 30;

    private static final int MOST_REPORTS = 5;
    private static final int MOST_DAYS = 9;
    private static final int OPENED_CELL = 100;
    private static final long DIGEST_START = 58114;

    private final Questionnaire form = new Questionnaire();
    private final Quotas quotas = new Quotas();
    private final Panel panel = new Panel();
    private final Interviews interviews = new Interviews();
    /** The WEIGHTS as they are: weighed anew by each call that changes what they come from. */
    private final Weights weights = new Weights();
    /** Kept beside those for what would be. */
    private final Weights trial = new Weights();
    private final Reports reports = new Reports();
    private int roundsTold = 3;

    public SurveyHouse() {
    }

    // ---- the questionnaire

    public int question(int answers) throws IllegalArgumentException, IllegalStateException {
        if (answers < LEAST_ANSWERS || answers > MOST_ANSWERS) {
            throw new IllegalArgumentException("a QUESTION has 2 to 5 ANSWERS");
        }
        if (form.size() >= MOST_QUESTIONS) {
            throw new IllegalStateException("there are 10 QUESTIONS");
        }
        needNoInterview();
        return form.add(answers);
    }

    public int route(int question, int answer, int to)
            throws IndexOutOfBoundsException, IllegalArgumentException, IllegalStateException {
        needAnswer(question, answer);
        if (to != NONE) {
            needQuestion(to);
            if (to <= question) {
                throw new IllegalArgumentException("a ROUTE goes to a greater number");
            }
        }
        needNoInterview();
        int before = form.wayFrom(question, answer);
        form.setWay(question, answer, to);
        return before;
    }

    public int rotate(int rotation) throws IllegalArgumentException, IllegalStateException {
        if (rotation < 0 || rotation > MOST_ROTATION || rotation > form.size()) {
            throw new IllegalArgumentException("no such ROTATION");
        }
        needNoInterview();
        int before = form.rotation();
        form.setRotation(rotation);
        return before;
    }

    public int behind(int question, int answer) throws IndexOutOfBoundsException {
        needAnswer(question, answer);
        return form.wayFrom(question, answer);
    }

    // ---- the panel

    public int person(int a, int b) throws IllegalArgumentException, IllegalStateException {
        if (!isA(a) || !isB(b)) {
            throw new IllegalArgumentException("no such A, or B");
        }
        if (panel.size() >= MOST_PEOPLE) {
            throw new IllegalStateException("there are 24 PEOPLE");
        }
        return panel.add(cellAt(a, b));
    }

    public int target(int a, int b, int target) throws IndexOutOfBoundsException, IllegalArgumentException {
        needCell(a, b);
        if (target < 0 || target > MOST_TARGET) {
            throw new IllegalArgumentException("a TARGET is 0 to 9");
        }
        int cell = cellAt(a, b);
        int before = quotas.targetOf(cell);
        quotas.setTarget(cell, target);
        reweigh();
        return before;
    }

    public int soft(int soft) throws IllegalArgumentException {
        if (soft < 0 || soft > MOST_SOFT) {
            throw new IllegalArgumentException("a SOFT edge is 0 to 3");
        }
        int before = quotas.softEdge();
        quotas.setSoftEdge(soft);
        return before;
    }

    public int ofCell(int a, int b, int what) throws IndexOutOfBoundsException, IllegalArgumentException {
        needCell(a, b);
        int cell = cellAt(a, b);
        switch (what) {
            case 0:
                return quotas.targetOf(cell);
            case 1:
                return quotas.filledOf(cell);
            case 2:
                return quotas.isOpen(cell) ? 1 : 0;
            case 3:
                return panel.countOf(cell);
            case 4:
                return countToAsk(cell);
            default:
                throw new IllegalArgumentException("what is 0 to 4");
        }
    }

    public int ofPerson(int person, int what) throws IndexOutOfBoundsException, IllegalArgumentException {
        needPerson(person);
        switch (what) {
            case 0:
                return aOf(panel.cellOf(person));
            case 1:
                return bOf(panel.cellOf(person));
            case 2:
                return panel.fatigueIn(person, 0);
            case 3:
                return panel.pointsOf(person);
            case 4:
                return canBeAsked(person, 0) ? 1 : 0;
            case 5:
                return panel.latestOf(person);
            default:
                throw new IllegalArgumentException("what is 0 to 5");
        }
    }

    public int next() {
        return firstToAsk(0);
    }

    public int day() {
        return panel.beginDay();
    }

    // ---- interviews

    public int begin(int person) throws IndexOutOfBoundsException, IllegalStateException {
        needPerson(person);
        if (!canBeAsked(person, 0)) {
            throw new IllegalStateException("the PERSON cannot be ASKED");
        }
        if (form.size() == 0) {
            throw new IllegalStateException("there are no QUESTIONS");
        }
        if (interviews.size() >= MOST_INTERVIEWS) {
            throw new IllegalStateException("there were 40 INTERVIEWS");
        }
        int interview = interviews.add(person, panel.cellOf(person));
        interviews.moveTo(interview, form.firstOf(interview));
        panel.ask(person, interview);
        return interview;
    }

    public int answer(int interview, int answer, int seconds)
            throws IndexOutOfBoundsException, IllegalStateException, IllegalArgumentException {
        needInterview(interview);
        if (interviews.stateOf(interview) != RUNNING) {
            throw new IllegalStateException("the INTERVIEW is not RUNNING");
        }
        int question = interviews.placeOf(interview);
        if (!form.offers(question, answer)) {
            throw new IllegalArgumentException("the QUESTION has no such ANSWER");
        }
        if (seconds < 1 || seconds > MOST_SECONDS) {
            throw new IllegalArgumentException("SECONDS are 1 to 99");
        }
        interviews.note(interview, question, answer, seconds);
        int to = form.nextOf(interview, interviews.countOf(interview), question, answer);
        interviews.moveTo(interview, to);
        if (to == NONE) {
            finish(interview);
        }
        return to;
    }

    public int ofInterview(int interview, int what) throws IndexOutOfBoundsException, IllegalArgumentException {
        needInterview(interview);
        switch (what) {
            case 0:
                return interviews.personOf(interview);
            case 1:
                return interviews.stateOf(interview);
            case 2:
                return interviews.placeOf(interview);
            case 3:
                return interviews.countOf(interview);
            case 4:
                return interviews.secondsOf(interview);
            case 5:
                return weights.of(interview);
            case 6:
                return interviews.isToClean(interview) ? 1 : 0;
            default:
                throw new IllegalArgumentException("what is 0 to 6");
        }
    }

    public int given(int interview, int question) throws IndexOutOfBoundsException {
        needInterview(interview);
        needQuestion(question);
        return interviews.answerTo(interview, question);
    }

    public int clean() {
        int count = 0;
        for (int interview = 0; interview < interviews.size(); interview++) {
            if (interviews.isToClean(interview)) {
                interviews.setState(interview, CLEANED);
                quotas.fill(interviews.cellOf(interview), -1);
                panel.addPoints(interviews.personOf(interview), -POINTS_COMPLETE);
                count++;
            }
        }
        reweigh();
        return count;
    }

    public int many(int what) throws IllegalArgumentException {
        switch (what) {
            case 0:
                return form.size();
            case 1:
                return panel.size();
            case 2:
                return interviews.countIn(RUNNING);
            case 3:
                return interviews.countIn(COMPLETE);
            case 4:
                return interviews.countIn(OUT);
            case 5:
                return interviews.countIn(CLEANED);
            case 6:
                return quotas.allTargets();
            case 7:
                return quotas.countOpen();
            case 8:
                return countAllToAsk();
            case 9:
                return panel.allPoints();
            case 10:
                return reports.size();
            case 11:
                return panel.today();
            default:
                throw new IllegalArgumentException("what is 0 to 11");
        }
    }

    // ---- weights, tables and reports

    public int rounds(int rounds) throws IllegalArgumentException {
        needRounds(rounds);
        int before = roundsTold;
        roundsTold = rounds;
        reweigh();
        return before;
    }

    public int off() {
        return weights.farthest(interviews, quotas);
    }

    public int share(int question, int answer, int a) throws IndexOutOfBoundsException {
        needAnswer(question, answer);
        if (a != NONE) {
            needA(a);
        }
        return weights.shareOf(interviews, question, answer, a);
    }

    public boolean isMarked(int question, int answer, int a, int other)
            throws IndexOutOfBoundsException, IllegalArgumentException {
        needAnswer(question, answer);
        needA(a);
        needA(other);
        if (a == other) {
            throw new IllegalArgumentException("a is other");
        }
        if (interviews.countAnswered(question, a) < LEAST_TO_MARK
                || interviews.countAnswered(question, other) < LEAST_TO_MARK) {
            return false;
        }
        int one = weights.shareOf(interviews, question, answer, a);
        int two = weights.shareOf(interviews, question, answer, other);
        return one != NONE && two != NONE && Math.abs(one - two) >= SHARES_APART;
    }

    public int hold() throws IllegalStateException {
        if (reports.size() >= MOST_REPORTS) {
            throw new IllegalStateException("there are 5 reports");
        }
        int report = reports.add();
        for (int question = 0; question < form.size(); question++) {
            for (int answer = 0; answer < form.answersOf(question); answer++) {
                reports.put(report, question, answer, weights.shareOf(interviews, question, answer, NONE));
            }
        }
        return report;
    }

    public int held(int report, int question, int answer) throws IndexOutOfBoundsException {
        if (report < 0 || report >= reports.size()) {
            throw new IndexOutOfBoundsException("no such report");
        }
        needAnswer(question, answer);
        return reports.shareIn(report, question, answer);
    }

    public double meanSeconds() {
        int seconds = 0;
        int answers = 0;
        for (int interview = 0; interview < interviews.size(); interview++) {
            if (interviews.isComplete(interview)) {
                seconds += interviews.secondsOf(interview);
                answers += interviews.countOf(interview);
            }
        }
        return answers > 0 ? (double) seconds / (double) answers : 0.0;
    }

    // ---- what would be (nothing is changed)

    public int cleaned() {
        int all = 0;
        for (int cell = 0; cell < CELLS; cell++) {
            all += interviews.countToClean(cell);
        }
        int opened = 0;
        for (int cell = 0; cell < CELLS; cell++) {
            if (!quotas.isOpen(cell) && quotas.isOpenWith(cell, interviews.countToClean(cell), all)) {
                opened++;
            }
        }
        return all + OPENED_CELL * opened;
    }

    public int nextIn(int days) throws IllegalArgumentException {
        if (days < 0 || days > MOST_DAYS) {
            throw new IllegalArgumentException("days are 0 to 9");
        }
        return firstToAsk(days);
    }

    public int offWith(int rounds) throws IllegalArgumentException {
        needRounds(rounds);
        trial.weigh(interviews, quotas, rounds);
        return trial.farthest(interviews, quotas);
    }

    public int shortest(int question) throws IndexOutOfBoundsException {
        needQuestion(question);
        return form.stepsFrom(question);
    }

    public long digest() {
        long d = DIGEST_START;
        for (int what = 0; what <= 11; what++) {
            d = d * 31 + many(what);
        }
        d = digestCells(d);
        d = digestPeople(d);
        d = digestInterviews(d);
        d = digestQuestions(d);
        d = d * 31 + next();
        d = d * 31 + off();
        d = d * 31 + cleaned();
        return d * 31 + nextIn(3);
    }

    private long digestCells(long start) {
        long d = start;
        for (int a = 0; a < TRAITS_A; a++) {
            for (int b = 0; b < TRAITS_B; b++) {
                for (int what = 0; what <= 4; what++) {
                    d = d * 31 + ofCell(a, b, what);
                }
            }
        }
        return d;
    }

    private long digestPeople(long start) {
        long d = start;
        for (int person = 0; person < panel.size(); person++) {
            for (int what = 0; what <= 5; what++) {
                d = d * 31 + ofPerson(person, what);
            }
        }
        return d;
    }

    private long digestInterviews(long start) {
        long d = start;
        for (int interview = 0; interview < interviews.size(); interview++) {
            for (int what = 0; what <= 6; what++) {
                d = d * 31 + ofInterview(interview, what);
            }
            for (int question = 0; question < form.size(); question++) {
                d = d * 31 + given(interview, question);
            }
        }
        return d;
    }

    private long digestQuestions(long start) {
        long d = start;
        for (int question = 0; question < form.size(); question++) {
            for (int answer = 0; answer < form.answersOf(question); answer++) {
                d = d * 31 + share(question, answer, NONE);
            }
            d = d * 31 + shortest(question);
        }
        return d;
    }

    // ---- what the face refuses

    private void needNoInterview() {
        if (interviews.size() > 0) {
            throw new IllegalStateException("there was an INTERVIEW");
        }
    }

    private void needQuestion(int question) {
        if (!form.has(question)) {
            throw new IndexOutOfBoundsException("no such QUESTION");
        }
    }

    private void needAnswer(int question, int answer) {
        if (!form.offers(question, answer)) {
            throw new IndexOutOfBoundsException("no such QUESTION, or ANSWER");
        }
    }

    private void needPerson(int person) {
        if (person < 0 || person >= panel.size()) {
            throw new IndexOutOfBoundsException("no such PERSON");
        }
    }

    private void needInterview(int interview) {
        if (interview < 0 || interview >= interviews.size()) {
            throw new IndexOutOfBoundsException("no such INTERVIEW");
        }
    }

    private static void needA(int a) {
        if (!isA(a)) {
            throw new IndexOutOfBoundsException("no such A");
        }
    }

    private static void needCell(int a, int b) {
        if (!isA(a) || !isB(b)) {
            throw new IndexOutOfBoundsException("no such A, or B");
        }
    }

    private static void needRounds(int rounds) {
        if (rounds < 0 || rounds > MOST_ROUNDS) {
            throw new IllegalArgumentException("ROUNDS are 0 to 9");
        }
    }

    // ---- CELLS, of an A and a B, and groups, of one of these

    private static boolean isA(int a) {
        return a >= 0 && a < TRAITS_A;
    }

    private static boolean isB(int b) {
        return b >= 0 && b < TRAITS_B;
    }

    private static int cellAt(int a, int b) {
        return a * TRAITS_B + b;
    }

    private static int aOf(int cell) {
        return cell / TRAITS_B;
    }

    private static int bOf(int cell) {
        return cell % TRAITS_B;
    }

    private static boolean isIn(int cell, int group) {
        return group < TRAITS_A ? aOf(cell) == group : bOf(cell) == group - TRAITS_A;
    }

    // ---- who is ASKED

    private boolean canBeAsked(int person, int days) {
        return !interviews.isTaken(panel.latestOf(person))
                && panel.fatigueIn(person, days) <= MOST_FATIGUE_TO_ASK
                && quotas.isOpen(panel.cellOf(person));
    }

    private int countToAsk(int cell) {
        int count = 0;
        for (int person = 0; person < panel.size(); person++) {
            if (panel.cellOf(person) == cell && canBeAsked(person, 0)) {
                count++;
            }
        }
        return count;
    }

    private int countAllToAsk() {
        int count = 0;
        for (int cell = 0; cell < CELLS; cell++) {
            count += countToAsk(cell);
        }
        return count;
    }

    private int firstToAsk(int days) {
        int first = NONE;
        for (int person = 0; person < panel.size(); person++) {
            if (canBeAsked(person, days) && (first == NONE || isAhead(person, first, days))) {
                first = person;
            }
        }
        return first;
    }

    private boolean isAhead(int person, int other, int days) {
        int lack = quotas.lackOf(panel.cellOf(person));
        int otherLack = quotas.lackOf(panel.cellOf(other));
        if (lack != otherLack) {
            return lack > otherLack;
        }
        return panel.fatigueIn(person, days) < panel.fatigueIn(other, days);
    }

    // ---- what follows on a change

    private void finish(int interview) {
        int person = interviews.personOf(interview);
        int cell = interviews.cellOf(interview);
        if (quotas.isOpen(cell)) {
            interviews.setState(interview, COMPLETE);
            quotas.fill(cell, 1);
            panel.addPoints(person, POINTS_COMPLETE);
            reweigh();
        } else {
            interviews.setState(interview, OUT);
            panel.addPoints(person, POINTS_OUT);
        }
    }

    private void reweigh() {
        weights.weigh(interviews, quotas, roundsTold);
    }

    /** The QUESTIONS, with ROUTES and ROTATION. */
    private static final class Questionnaire {
        /** No ROUTE: on to the next QUESTION by number, which may be added later. */
        private static final int BY_NUMBER = -2;

        private int size;
        private int rotated;
        private final int[] answers = new int[MOST_QUESTIONS];
        private final int[] ways = new int[MOST_QUESTIONS * MOST_ANSWERS];
        private final int[] steps = new int[MOST_QUESTIONS];

        Questionnaire() {
            Arrays.fill(ways, BY_NUMBER);
        }

        int size() {
            return size;
        }

        boolean has(int question) {
            return question >= 0 && question < size;
        }

        boolean offers(int question, int answer) {
            return has(question) && answer >= 0 && answer < answers[question];
        }

        int answersOf(int question) {
            return answers[question];
        }

        int add(int answerCount) {
            answers[size] = answerCount;
            size++;
            return size - 1;
        }

        int rotation() {
            return rotated;
        }

        void setRotation(int rotation) {
            rotated = rotation;
        }

        int wayFrom(int question, int answer) {
            int way = ways[question * MOST_ANSWERS + answer];
            return way == BY_NUMBER ? orEnd(question + 1) : way;
        }

        void setWay(int question, int answer, int to) {
            ways[question * MOST_ANSWERS + answer] = to;
        }

        private int orEnd(int question) {
            return question < size ? question : NONE;
        }

        int firstOf(int interview) {
            return rotated > 0 ? interview % rotated : 0;
        }

        /** Where an INTERVIEW goes on that has so many ANSWERS, the last one being this to this QUESTION. */
        int nextOf(int interview, int answerCount, int question, int answer) {
            if (rotated > 0 && answerCount < rotated) {
                return (interview + answerCount) % rotated;
            }
            if (rotated > 0 && answerCount == rotated) {
                return orEnd(rotated);
            }
            return wayFrom(question, answer);
        }

        /** From the last QUESTION down, as each way goes to a greater number. */
        int stepsFrom(int question) {
            for (int from = size - 1; from >= question; from--) {
                int least = MOST_QUESTIONS;
                for (int answer = 0; answer < answers[from]; answer++) {
                    int to = wayFrom(from, answer);
                    least = Math.min(least, to == NONE ? 1 : 1 + steps[to]);
                }
                steps[from] = least;
            }
            return steps[question];
        }
    }

    /** TARGETS of the CELLS, and by how many each is FILLED. */
    private static final class Quotas {
        private int edge;
        private final int[] targets = new int[CELLS];
        private final int[] filled = new int[CELLS];

        int targetOf(int cell) {
            return targets[cell];
        }

        void setTarget(int cell, int target) {
            targets[cell] = target;
        }

        int filledOf(int cell) {
            return filled[cell];
        }

        void fill(int cell, int more) {
            filled[cell] += more;
        }

        int softEdge() {
            return edge;
        }

        void setSoftEdge(int soft) {
            edge = soft;
        }

        int lackOf(int cell) {
            return targets[cell] - filled[cell];
        }

        int allTargets() {
            return sumOf(targets);
        }

        boolean isOpen(int cell) {
            return isOpenWith(cell, 0, 0);
        }

        /** Whether it is OPEN with so many fewer in this CELL, and in all CELLS together. */
        boolean isOpenWith(int cell, int fewer, int fewerOfAll) {
            int here = filled[cell] - fewer;
            if (here < targets[cell]) {
                return true;
            }
            return here < targets[cell] + edge && sumOf(filled) - fewerOfAll < sumOf(targets);
        }

        int countOpen() {
            int count = 0;
            for (int cell = 0; cell < CELLS; cell++) {
                if (isOpen(cell)) {
                    count++;
                }
            }
            return count;
        }

        int marginOf(int group) {
            int sum = 0;
            for (int cell = 0; cell < CELLS; cell++) {
                if (isIn(cell, group)) {
                    sum += targets[cell];
                }
            }
            return FIRST_WEIGHT * sum;
        }

        private static int sumOf(int[] cells) {
            int sum = 0;
            for (int number : cells) {
                sum += number;
            }
            return sum;
        }
    }

    /** The PEOPLE, and the DAY. */
    private static final class Panel {
        private int size;
        private int dayNumber;
        private final int[] cells = new int[MOST_PEOPLE];
        private final int[] fatigue = new int[MOST_PEOPLE];
        private final int[] points = new int[MOST_PEOPLE];
        private final int[] latest = new int[MOST_PEOPLE];

        int size() {
            return size;
        }

        int today() {
            return dayNumber;
        }

        int add(int cell) {
            cells[size] = cell;
            latest[size] = NONE;
            size++;
            return size - 1;
        }

        int cellOf(int person) {
            return cells[person];
        }

        int latestOf(int person) {
            return latest[person];
        }

        int pointsOf(int person) {
            return points[person];
        }

        void addPoints(int person, int more) {
            points[person] += more;
        }

        int allPoints() {
            int sum = 0;
            for (int person = 0; person < size; person++) {
                sum += points[person];
            }
            return sum;
        }

        int countOf(int cell) {
            int count = 0;
            for (int person = 0; person < size; person++) {
                if (cells[person] == cell) {
                    count++;
                }
            }
            return count;
        }

        /** FATIGUE as it is behind so many more DAYS. */
        int fatigueIn(int person, int days) {
            return Math.max(0, fatigue[person] - days);
        }

        void ask(int person, int interview) {
            fatigue[person] = Math.min(MOST_FATIGUE, fatigue[person] + FATIGUE_OF_ASKING);
            latest[person] = interview;
        }

        int beginDay() {
            for (int person = 0; person < size; person++) {
                fatigue[person] = fatigueIn(person, 1);
            }
            dayNumber++;
            return dayNumber;
        }
    }

    /** The INTERVIEWS, with all that was answered in them. */
    private static final class Interviews {
        private int size;
        private final int[] people = new int[MOST_INTERVIEWS];
        private final int[] cells = new int[MOST_INTERVIEWS];
        private final int[] states = new int[MOST_INTERVIEWS];
        private final int[] places = new int[MOST_INTERVIEWS];
        private final int[] counts = new int[MOST_INTERVIEWS];
        private final int[] seconds = new int[MOST_INTERVIEWS];
        private final int[] answers = new int[MOST_INTERVIEWS * MOST_QUESTIONS];

        Interviews() {
            Arrays.fill(answers, NONE);
        }

        int size() {
            return size;
        }

        int add(int person, int cell) {
            people[size] = person;
            cells[size] = cell;
            states[size] = RUNNING;
            size++;
            return size - 1;
        }

        int personOf(int interview) {
            return people[interview];
        }

        int cellOf(int interview) {
            return cells[interview];
        }

        int stateOf(int interview) {
            return states[interview];
        }

        void setState(int interview, int state) {
            states[interview] = state;
        }

        boolean isComplete(int interview) {
            return states[interview] == COMPLETE;
        }

        /** The QUESTION at which it is; NONE at the END, so if it is not RUNNING. */
        int placeOf(int interview) {
            return places[interview];
        }

        void moveTo(int interview, int question) {
            places[interview] = question;
        }

        int countOf(int interview) {
            return counts[interview];
        }

        int secondsOf(int interview) {
            return seconds[interview];
        }

        int answerTo(int interview, int question) {
            return answers[interview * MOST_QUESTIONS + question];
        }

        void note(int interview, int question, int answer, int took) {
            answers[interview * MOST_QUESTIONS + question] = answer;
            seconds[interview] += took;
            counts[interview]++;
        }

        /**
         * Whether the latest INTERVIEW of a PERSON (NONE without one) keeps it from being ASKED. Those ahead of
         * the latest one are OUT or CLEANED, as it could not have begun otherwise.
         */
        boolean isTaken(int latest) {
            return latest >= 0 && latest < size && (states[latest] == RUNNING || states[latest] == COMPLETE);
        }

        int countIn(int state) {
            int count = 0;
            for (int interview = 0; interview < size; interview++) {
                if (states[interview] == state) {
                    count++;
                }
            }
            return count;
        }

        boolean isToClean(int interview) {
            return isComplete(interview) && (isTooFast(interview) || isStraightLine(interview));
        }

        int countToClean(int cell) {
            int count = 0;
            for (int interview = 0; interview < size; interview++) {
                if (cells[interview] == cell && isToClean(interview)) {
                    count++;
                }
            }
            return count;
        }

        private boolean isTooFast(int interview) {
            return seconds[interview] < LEAST_SECONDS_EACH * counts[interview];
        }

        private boolean isStraightLine(int interview) {
            if (counts[interview] < ANSWERS_OF_A_LINE) {
                return false;
            }
            int first = NONE;
            for (int question = 0; question < MOST_QUESTIONS; question++) {
                int answer = answerTo(interview, question);
                if (first == NONE) {
                    first = answer;
                } else if (answer != NONE && answer != first) {
                    return false;
                }
            }
            return true;
        }

        /** Whether it counts for the SHARES of that QUESTION, among those with that A (NONE: among all). */
        boolean isCounted(int interview, int question, int a) {
            return isComplete(interview)
                    && answerTo(interview, question) != NONE
                    && (a == NONE || aOf(cells[interview]) == a);
        }

        int countAnswered(int question, int a) {
            int count = 0;
            for (int interview = 0; interview < size; interview++) {
                if (isCounted(interview, question, a)) {
                    count++;
                }
            }
            return count;
        }
    }

    /** A WEIGHT for each INTERVIEW, 0 for one that is not COMPLETE. */
    private static final class Weights {
        private final int[] weights = new int[MOST_INTERVIEWS];

        int of(int interview) {
            return weights[interview];
        }

        void weigh(Interviews interviews, Quotas quotas, int rounds) {
            for (int interview = 0; interview < interviews.size(); interview++) {
                weights[interview] = interviews.isComplete(interview) ? FIRST_WEIGHT : 0;
            }
            for (int round = 0; round < rounds; round++) {
                for (int group = 0; group < GROUPS; group++) {
                    scale(interviews, group, quotas.marginOf(group));
                }
            }
        }

        /** A WEIGHT is never above the greatest MARGIN, 27000, so that the product stays in an int. */
        private void scale(Interviews interviews, int group, int margin) {
            int sum = sumOf(interviews, group);
            if (sum <= 0) {
                return;
            }
            for (int interview = 0; interview < interviews.size(); interview++) {
                if (isIn(interviews.cellOf(interview), group)) {
                    weights[interview] = weights[interview] * margin / sum;
                }
            }
        }

        private int sumOf(Interviews interviews, int group) {
            int sum = 0;
            for (int interview = 0; interview < interviews.size(); interview++) {
                if (isIn(interviews.cellOf(interview), group)) {
                    sum += weights[interview];
                }
            }
            return sum;
        }

        /** OFF, with these WEIGHTS. */
        int farthest(Interviews interviews, Quotas quotas) {
            int far = 0;
            for (int group = 0; group < GROUPS; group++) {
                int sum = sumOf(interviews, group);
                if (sum > 0) {
                    far = Math.max(far, Math.abs(sum - quotas.marginOf(group)));
                }
            }
            return far;
        }

        int shareOf(Interviews interviews, int question, int answer, int a) {
            int whole = 0;
            int part = 0;
            for (int interview = 0; interview < interviews.size(); interview++) {
                if (interviews.isCounted(interview, question, a)) {
                    whole += weights[interview];
                    if (interviews.answerTo(interview, question) == answer) {
                        part += weights[interview];
                    }
                }
            }
            return whole > 0 ? 100 * part / whole : NONE;
        }
    }

    /** The reports: SHARES as they were held. */
    private static final class Reports {
        private int size;
        private final int[] shares = new int[MOST_REPORTS * MOST_QUESTIONS * MOST_ANSWERS];

        Reports() {
            Arrays.fill(shares, NONE);
        }

        int size() {
            return size;
        }

        int add() {
            size++;
            return size - 1;
        }

        void put(int report, int question, int answer, int shareThen) {
            shares[placeOf(report, question, answer)] = shareThen;
        }

        int shareIn(int report, int question, int answer) {
            return shares[placeOf(report, question, answer)];
        }

        private static int placeOf(int report, int question, int answer) {
            return (report * MOST_QUESTIONS + question) * MOST_ANSWERS + answer;
        }
    }
}
