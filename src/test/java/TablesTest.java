/** Promises 19 to 25, 28 (offWith) and 30 (digest). */
public final class TablesTest {
    private static final Check check = new Check("TablesTest");
    private static final int LEAST = Integer.MIN_VALUE;
    private static final int MOST = Integer.MAX_VALUE;

    /** People by CELL, each row: A, B, how many, TARGET. One QUESTION of 3 ANSWERS. */
    private static SurveyHouse house(int[]... cells) {
        SurveyHouse h = new SurveyHouse();
        h.question(3);
        for (int[] cell : cells) {
            for (int k = 0; k < cell[2]; k++) {
                h.person(cell[0], cell[1]);
            }
            h.target(cell[0], cell[1], cell[3]);
        }
        return h;
    }

    private static void run(SurveyHouse h, int person, int answer) {
        h.answer(h.begin(person), answer, 5);
    }

    private static void weights(SurveyHouse h, int... due) {
        for (int i = 0; i < due.length; i++) {
            check.due("WEIGHT of " + i, h.ofInterview(i, 5), due[i]);
        }
    }

    /** 2 of CELL 0 0, 1 of 0 1, 1 of 1 0: each A, and then each B, is scaled in each ROUND. */
    private static SurveyHouse four() {
        SurveyHouse h = house(new int[] {0, 0, 2, 3}, new int[] {0, 1, 1, 1}, new int[] {1, 0, 1, 5});
        run(h, 0, 0);
        run(h, 1, 1);
        run(h, 2, 1);
        run(h, 3, 2);
        return h;
    }

    private static void promise19() {
        SurveyHouse h = four();
        for (int wrong : new int[] {LEAST, -1, 10, MOST}) {
            check.thrown("rounds(" + wrong + ")", Check.ARGUMENT, h, () -> h.rounds(wrong));
        }
        check.due("rounds(0)", h.rounds(0), 3);
        weights(h, 1000, 1000, 1000, 1000);
        check.due("rounds(1)", h.rounds(1), 0);
        // A 0: 3000 to 4000, 1333 each; A 1: 1000 to 5000. B 0: 1333 + 1333 + 5000 to 8000; B 1: 1333 to 1000.
        weights(h, 1333 * 8000 / 7666, 1333 * 8000 / 7666, 1000, 5000 * 8000 / 7666);
        check.due("rounds(9)", h.rounds(9), 1);
        check.due("rounds(2)", h.rounds(2), 9);
        // A 0: 1391 + 1391 + 1000 to 4000; A 1: 5217 to 5000. B 0 then 1471 + 1471 + 5000, B 1 1057.
        weights(h, 1471 * 8000 / 7942, 1471 * 8000 / 7942, 1057 * 1000 / 1057, 5000 * 8000 / 7942);
        h.begin(h.person(0, 0));
        check.due("one that is RUNNING has none", h.ofInterview(4, 5), 0);
        weights(h, 1481, 1481, 1000, 5036);
    }

    private static void promise20() {
        SurveyHouse h = four();
        h.rounds(0);
        // A 0: 3000 to 4000, A 1: 1000 to 5000, B 0: 3000 to 8000, B 1: 1000 to 1000.
        check.due("off(), no ROUNDS", h.off(), 5000);
        h.rounds(1);
        // A 0: 1391 + 1391 + 1000 = 3782 to 4000; A 1: 5217 to 5000; B 0: 7999 to 8000.
        check.due("off(), 1 of them", h.off(), 218);
        h.target(2, 1, 9);
        // B 1: 1333 to 10000 now; A 0 is far above 4000, A 2 has no WEIGHT and does not count.
        check.due("off(), A 2 without WEIGHT", h.off(), 1391 + 1391 + 10000 - 4000);
        h.rounds(0);
        check.due("off(), B 1 the farthest", h.off(), 9000);
        check.due("off() of none", house(new int[] {0, 0, 1, 1}).off(), 0);
        SurveyHouse gone = house(new int[] {0, 0, 1, 1});
        run(gone, 0, 0);
        gone.target(0, 0, 0);
        check.due("off(), all WEIGHT gone", gone.off(), 0);
        check.due("its WEIGHT", gone.ofInterview(0, 5), 0);
        gone.rounds(0);
        check.due("off(), MARGIN 0", gone.off(), 1000);
    }

    private static void promise21() {
        SurveyHouse h = house(new int[] {0, 0, 3, 3}, new int[] {1, 0, 1, 6});
        check.due("share without any", h.share(0, 0, -1), -1);
        run(h, 0, 0);
        run(h, 1, 0);
        run(h, 2, 1);
        run(h, 3, 1);
        // WEIGHTS are 1000 each, but 6000 the last one.
        check.due("share(0, 0, -1)", h.share(0, 0, -1), 22);
        check.due("share(0, 1, -1)", h.share(0, 1, -1), 77);
        check.due("share(0, 2, -1)", h.share(0, 2, -1), 0);
        check.due("share(0, 0, 0)", h.share(0, 0, 0), 66);
        check.due("share(0, 1, 0)", h.share(0, 1, 0), 33);
        check.due("share(0, 1, 1)", h.share(0, 1, 1), 100);
        check.due("share(0, 0, 1)", h.share(0, 0, 1), 0);
        check.due("share(0, 0, 2)", h.share(0, 0, 2), -1);
        int[][] wrong = {{1, 0, 0}, {-1, 0, 0}, {0, 3, 0}, {0, -1, 0}, {0, 0, 3}, {0, 0, -2},
            {MOST, MOST, MOST}, {LEAST, LEAST, LEAST}};
        for (int[] w : wrong) {
            check.thrown("share(" + w[0] + ", " + w[1] + ", " + w[2] + ")", Check.INDEX, h,
                    () -> h.share(w[0], w[1], w[2]));
        }
        h.rounds(0);
        check.due("no ROUNDS, share(0, 0, -1)", h.share(0, 0, -1), 50);
        h.target(1, 0, 0);
        h.rounds(3);
        check.due("all WEIGHT of A 1 gone", h.share(0, 1, 1), -1);
        check.due("among all", h.share(0, 1, -1), 33);
        passedBy();
    }

    /** Those that did not answer a QUESTION, or are not COMPLETE, do not count. */
    private static void passedBy() {
        SurveyHouse h = new SurveyHouse();
        h.question(2);
        h.question(2);
        h.route(0, 1, -1);
        for (int k = 0; k < 5; k++) {
            h.person(0, 0);
        }
        h.target(0, 0, 4);
        h.answer(h.begin(0), 1, 5);
        check.due("nobody answered it", h.share(1, 0, -1), -1);
        h.begin(1);
        h.answer(1, 0, 5);
        h.answer(1, 1, 5);
        check.due("share(1, 1, -1)", h.share(1, 1, -1), 100);
        h.begin(2);
        h.answer(2, 0, 5);
        check.due("one is RUNNING", h.share(0, 0, -1), 50);
        h.answer(2, 0, 5);
        check.due("now COMPLETE", h.share(0, 0, -1), 66);
        check.due("share(1, 0, -1)", h.share(1, 0, -1), 50);
        h.begin(3);
        h.answer(3, 0, 1);
        h.answer(3, 0, 1);
        check.due("share(1, 0, -1)", h.share(1, 0, -1), 66);
        h.clean();
        check.due("one is CLEANED", h.share(1, 0, -1), 50);
    }

    private static void promise22() {
        SurveyHouse h = house(new int[] {0, 0, 4, 9}, new int[] {1, 1, 4, 9});
        run(h, 0, 0);
        run(h, 1, 0);
        run(h, 2, 0);
        run(h, 4, 1);
        run(h, 5, 1);
        check.due("two of the other", h.isMarked(0, 0, 0, 1), false);
        check.due("two of the one", h.isMarked(0, 0, 1, 0), false);
        run(h, 6, 0);
        check.due("100 and 33", h.isMarked(0, 0, 0, 1), true);
        check.due("33 and 100", h.isMarked(0, 0, 1, 0), true);
        check.due("0 and 66", h.isMarked(0, 1, 0, 1), true);
        check.due("0 and 0", h.isMarked(0, 2, 0, 1), false);
        check.due("none of A 2", h.isMarked(0, 0, 0, 2), false);
        run(h, 3, 1);
        run(h, 7, 0);
        check.due("75 and 50", h.isMarked(0, 0, 0, 1), false);
        h.target(1, 1, 0);
        check.due("75 and NONE", h.isMarked(0, 0, 0, 1), false);
        check.due("NONE and 75", h.isMarked(0, 0, 1, 0), false);
        int[][] wrong = {{1, 0, 0, 1}, {-1, 0, 0, 1}, {0, 3, 0, 1}, {0, -1, 0, 1}, {0, 0, 3, 0}, {0, 0, -1, 0},
            {0, 0, 0, 3}, {0, 0, 0, -1}, {0, 0, 3, 3}, {0, 0, -1, -1}, {1, 0, 0, 0}, {MOST, MOST, MOST, MOST}};
        for (int[] w : wrong) {
            check.thrown("isMarked(" + w[0] + ", " + w[1] + ", " + w[2] + ", " + w[3] + ")", Check.INDEX, h,
                    () -> h.isMarked(w[0], w[1], w[2], w[3]));
        }
        for (int a = 0; a < 3; a++) {
            int same = a;
            check.thrown("isMarked between A and itself", Check.ARGUMENT, h, () -> h.isMarked(0, 0, same, same));
        }
        edge();
    }

    /** Half against a fifth: 30 apart; half against 21: 29 apart. */
    private static void edge() {
        SurveyHouse h = house(new int[] {0, 0, 4, 4}, new int[] {1, 0, 5, 5}, new int[] {2, 0, 14, 9});
        h.soft(3);
        h.target(2, 1, 9);
        int[] answers = {0, 0, 1, 1, 0, 1, 1, 1, 1};
        for (int p = 0; p < answers.length; p++) {
            run(h, p, answers[p]);
        }
        check.due("share 50", h.share(0, 0, 0), 50);
        check.due("share 20", h.share(0, 0, 1), 20);
        check.due("30 apart", h.isMarked(0, 0, 0, 1), true);
        check.due("30 apart, the other way", h.isMarked(0, 0, 1, 0), true);
        for (int p = 9; p < 20; p++) {
            run(h, p, p < 11 ? 0 : 1);
        }
        check.due("share 2 of 11", h.share(0, 0, 2), 18);
        check.due("32 apart", h.isMarked(0, 0, 0, 2), true);
        run(h, 20, 0);
        check.due("share 3 of 12", h.share(0, 0, 2), 25);
        check.due("25 apart", h.isMarked(0, 0, 0, 2), false);
        SurveyHouse near = house(new int[] {0, 0, 8, 8}, new int[] {1, 0, 3, 3});
        int[] those = {0, 0, 0, 0, 0, 1, 1, 1, 0, 1, 1};
        for (int p = 0; p < those.length; p++) {
            run(near, p, those[p]);
        }
        check.due("share 62", near.share(0, 0, 0), 62);
        check.due("share 33", near.share(0, 0, 1), 33);
        check.due("29 apart", near.isMarked(0, 0, 0, 1), false);
        check.due("29 apart, the other way", near.isMarked(0, 0, 1, 0), false);
    }

    private static void promise23And24() {
        SurveyHouse h = house(new int[] {0, 0, 4, 4});
        check.due("hold()", h.hold(), 0);
        h.question(5);
        h.route(0, 2, -1);
        check.due("held, it was NONE", h.held(0, 0, 0), -1);
        check.due("held, the QUESTION was not there", h.held(0, 1, 4), -1);
        run(h, 0, 2);
        check.due("hold()", h.hold(), 1);
        h.begin(1);
        h.answer(1, 1, 5);
        h.answer(1, 4, 5);
        check.due("hold()", h.hold(), 2);
        check.due("held(0, 0, 2)", h.held(0, 0, 2), -1);
        check.due("held(1, 0, 2)", h.held(1, 0, 2), 100);
        check.due("held(1, 1, 4)", h.held(1, 1, 4), -1);
        check.due("held(2, 0, 2)", h.held(2, 0, 2), 50);
        check.due("held(2, 0, 1)", h.held(2, 0, 1), 50);
        check.due("held(2, 0, 0)", h.held(2, 0, 0), 0);
        check.due("held(2, 1, 4)", h.held(2, 1, 4), 100);
        check.due("held(2, 1, 0)", h.held(2, 1, 0), 0);
        h.hold();
        check.due("hold()", h.hold(), 4);
        check.thrown("the 6th", Check.STATE, h, () -> h.hold());
        check.due("many(10)", h.many(10), 5);
        h.clean();
        h.target(0, 0, 0);
        check.due("as it was held", h.held(4, 0, 2), 50);
        int[][] wrong = {{5, 0, 0}, {-1, 0, 0}, {0, 2, 0}, {0, -1, 0}, {0, 0, 3}, {0, 0, -1},
            {MOST, MOST, MOST}, {LEAST, LEAST, LEAST}};
        for (int[] w : wrong) {
            check.thrown("held(" + w[0] + ", " + w[1] + ", " + w[2] + ")", Check.INDEX, h,
                    () -> h.held(w[0], w[1], w[2]));
        }
    }

    private static void promise25() {
        SurveyHouse h = house(new int[] {0, 0, 4, 2});
        h.question(2);
        h.route(0, 1, -1);
        check.due("without any", h.meanSeconds(), 0.0);
        h.begin(0);
        h.answer(0, 0, 7);
        check.due("RUNNING does not count", h.meanSeconds(), 0.0);
        h.answer(0, 0, 4);
        check.due("11 for 2", h.meanSeconds(), 5.5);
        h.answer(h.begin(1), 1, 2);
        check.due("13 for 3", h.meanSeconds(), 13.0 / 3.0);
        h.clean();
        check.due("CLEANED does not count", h.meanSeconds(), 5.5);
        h.begin(2);
        h.target(0, 0, 1);
        h.answer(2, 1, 99);
        check.due("OUT does not count", h.meanSeconds(), 5.5);
    }

    private static void promise28() {
        SurveyHouse h = four();
        for (int wrong : new int[] {LEAST, -1, 10, MOST}) {
            check.thrown("offWith(" + wrong + ")", Check.ARGUMENT, h, () -> h.offWith(wrong));
        }
        int now = h.off();
        check.due("offWith(0)", h.offWith(0), 5000);
        check.due("offWith(1)", h.offWith(1), 218);
        check.due("offWith(3)", h.offWith(3), now);
        for (int rounds = 0; rounds <= 9; rounds++) {
            int would = h.offWith(rounds);
            int before = h.off();
            int told = h.rounds(rounds);
            check.due("offWith(" + rounds + ") is what off() is then", would, h.off());
            h.rounds(told);
            check.due("and changes nothing", h.off(), before);
        }
        check.due("ROUNDS still", h.rounds(3), 3);
    }

    private static long digest(SurveyHouse h) {
        long d = 58114;
        for (int w = 0; w <= 11; w++) {
            d = d * 31 + h.many(w);
        }
        for (int a = 0; a < 3; a++) {
            for (int b = 0; b < 2; b++) {
                for (int w = 0; w <= 4; w++) {
                    d = d * 31 + h.ofCell(a, b, w);
                }
            }
        }
        for (int p = 0; p < h.many(1); p++) {
            for (int w = 0; w <= 5; w++) {
                d = d * 31 + h.ofPerson(p, w);
            }
        }
        int interviews = h.many(2) + h.many(3) + h.many(4) + h.many(5);
        for (int i = 0; i < interviews; i++) {
            for (int w = 0; w <= 6; w++) {
                d = d * 31 + h.ofInterview(i, w);
            }
            for (int q = 0; q < h.many(0); q++) {
                d = d * 31 + h.given(i, q);
            }
        }
        for (int q = 0; q < h.many(0); q++) {
            for (int a = 0; a < 5; a++) {
                int question = q;
                int answer = a;
                if (!Check.outcome(() -> h.behind(question, answer)).startsWith("throws")) {
                    d = d * 31 + h.share(q, a, -1);
                }
            }
            d = d * 31 + h.shortest(q);
        }
        d = d * 31 + h.next();
        d = d * 31 + h.off();
        d = d * 31 + h.cleaned();
        return d * 31 + h.nextIn(3);
    }

    private static void promise30() {
        SurveyHouse h = new SurveyHouse();
        long empty = 58114;
        for (int k = 0; k < 12 + 30; k++) {
            empty = empty * 31;
        }
        empty = ((empty * 31 - 1) * 31 * 31) * 31 - 1;
        check.due("digest() of a new one", h.digest(), empty);
        SurveyHouse full = four();
        full.target(2, 0, 3);
        full.person(2, 0);
        full.begin(4);
        check.due("digest()", full.digest(), digest(full));
        full.answer(4, 2, 1);
        check.due("digest()", full.digest(), digest(full));
        full.clean();
        full.day();
        full.hold();
        check.due("digest()", full.digest(), digest(full));
        check.due("digest() changes nothing", full.digest(), full.digest());
    }

    public static void main(String[] args) {
        promise19();
        promise20();
        promise21();
        promise22();
        promise23And24();
        promise25();
        promise28();
        promise30();
        check.end();
    }
}
