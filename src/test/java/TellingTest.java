/** Promises 17 to 24: cell, part, district, why, advice, party, fairness, count. */
public final class TellingTest {
    private static final int[] WRONG = {-1, Integer.MIN_VALUE, Integer.MAX_VALUE};

    public static void main(String[] args) {
        cell();
        partOfDraft();
        partOfCut();
        partIsRefused();
        district();
        districtIsRefused();
        why();
        whyIsRefused();
        adviceToPlayerOne();
        adviceToPlayerZero();
        adviceIsRefused();
        party();
        fairness();
        count();
        tellingChangesNothing();
        Check.end("TellingTest");
    }

    /** The snake by rows wins 5 for the party 0, 6 for the party 1, a draw, and 2 for the party 0. */
    private static void vote(FrozenDistricts x) {
        x.setVotes(0, 9, 0);
        x.setVotes(1, 0, 4);
        x.setVotes(6, 2, 8);
        x.setVotes(20, 3, 3);
        x.setVotes(34, 1, 0);
        x.setVotes(35, 4, 3);
    }

    private static void voteAndPropose(FrozenDistricts x) {
        vote(x);
        x.snake(false);
        x.propose();
    }

    private static void freezeThree(FrozenDistricts x) {
        voteAndPropose(x);
        x.freeze(1);
        x.adopt();
        x.propose();
        x.freeze(1);
        x.adopt();
        x.propose();
    }

    private static void cell() {
        FrozenDistricts x = Check.made(TellingTest::vote);
        Check.due("17: votes for 0", x.cell(0, 0), 9);
        Check.due("17: votes for 1", x.cell(6, 1), 8);
        Check.due("17: no part", x.cell(0, 2), -5);
        Check.due("17: no district", x.cell(0, 3), -5);
        Check.due("17: neither, so none alike", x.cell(0, 4), 0);
        x.snake(false);
        int[] cells = {0, 1, 5, 6, 9, 13, 17, 22, 26, 35};
        int[] alike = {1, 2, 2, 2, 2, 3, 1, 2, 2, 2};
        for (int each = 0; each < cells.length; each++) {
            Check.due("17: alike to " + cells[each], x.cell(cells[each], 4), alike[each]);
        }
        x.propose();
        Check.due("17: the part of the cut", x.cell(35, 2), 3);
        Check.due("17: alike in the cut", x.cell(13, 4), 3);
        x.freeze(1);
        Check.due("17: frozen, no part", x.cell(6, 2), -5);
        Check.due("17: its district", x.cell(6, 3), 0);
        Check.due("17: open, no district", x.cell(0, 3), -5);
        Check.due("17: alike in the district", x.cell(13, 4), 3);
        Check.due("17: open without a part", x.cell(30, 4), 0);
        x.draft(0, 0);
        x.draft(1, 0);
        Check.due("17: a part is no district of the same number", x.cell(0, 4), 1);
        Check.due("17: a district is no part of the same number", x.cell(6, 4), 2);
        FrozenDistricts middle = Check.made(y -> {
            y.begin(2);
            for (int cell : new int[] {8, 13, 14, 15, 20}) {
                y.draft(cell, 1);
            }
        });
        Check.due("17: all around", middle.cell(14, 4), 4);
        Check.due("17: not over a corner", middle.cell(8, 4), 1);
        FrozenDistricts edge = Check.made(y -> {
            y.draft(5, 0);
            y.draft(6, 0);
        });
        Check.due("17: not over the right edge", edge.cell(5, 4), 0);
        Check.due("17: not over the left edge", edge.cell(6, 4), 0);
        for (int wrong : new int[] {-1, 36, Integer.MIN_VALUE, Integer.MAX_VALUE}) {
            Check.due("17: cell " + wrong, x.cell(wrong, 0), -1);
            Check.due("17: cell and what " + wrong, x.cell(wrong, 5), -1);
        }
        for (int wrong : new int[] {-1, 5, Integer.MIN_VALUE, Integer.MAX_VALUE}) {
            Check.due("17: what " + wrong, x.cell(0, wrong), -2);
        }
    }

    private static void partOfDraft() {
        FrozenDistricts x = Check.made(y -> {
            vote(y);
            y.draft(0, 2);
            y.draft(1, 0);
            y.draft(6, 1);
            y.draft(14, 2);
            y.draft(8, 2);
            y.draft(35, 2);
        });
        told("18: in pieces", x, 2, new int[] {4, 3, 14, 1010, 0, 0});
        told("18: one cell", x, 0, new int[] {1, 1, 4, 996, 1, 1});
        told("18: another one", x, 1, new int[] {1, 1, 4, 994, 1, 6});
        told("18: no cells", x, 3, new int[] {0, 0, 0, 1000, 2, -5});
        FrozenDistricts corner = Check.made(y -> {
            y.draft(0, 0);
            y.draft(7, 0);
            y.draft(5, 1);
            y.draft(6, 1);
        });
        Check.due("18: a corner does not connect", corner.part(0, 1), 2);
        Check.due("18: nor does the edge", corner.part(1, 1), 2);
        FrozenDistricts all = Check.made(y -> {
            for (int cell = 0; cell < 36; cell++) {
                y.setVotes(cell, 9, 0);
                y.draft(cell, 1);
            }
        });
        told("18: the whole map", all, 1, new int[] {36, 1, 24, 1324, 0, 0});
        FrozenDistricts board = Check.made(y -> {
            for (int cell = 0; cell < 36; cell++) {
                y.setVotes(cell, 0, 9);
                y.draft(cell, (cell + cell / 6) % 2);
            }
        });
        told("18: a chessboard", board, 1, new int[] {18, 18, 72, 838, 1, 1});
        FrozenDistricts close = Check.made(y -> {
            y.setVotes(0, 3, 2);
            y.setVotes(1, 4, 5);
            y.draft(0, 0);
            y.draft(1, 1);
        });
        told("18: won by one", close, 0, new int[] {1, 1, 4, 1001, 0, 0});
        told("18: lost by one", close, 1, new int[] {1, 1, 4, 999, 1, 1});
    }

    private static void partOfCut() {
        FrozenDistricts x = Check.made(TellingTest::voteAndPropose);
        told("18: of the cut", x, 0, new int[] {9, 1, 16, 1005, 0, 0});
        told("18: of the cut", x, 1, new int[] {9, 1, 16, 994, 1, 6});
        told("18: of the cut", x, 2, new int[] {9, 1, 16, 1000, 2, 18});
        told("18: of the cut", x, 3, new int[] {9, 1, 16, 1002, 0, 27});
        x.freeze(1);
        told("18: of the next draft", x, 0, new int[] {0, 0, 0, 1000, 2, -5});
        Check.due("18: k is less then", x.part(3, 0), -1);
        x.adopt();
        told("18: numbered anew", x, 1, new int[] {9, 1, 16, 1000, 2, 18});
    }

    private static void told(String what, FrozenDistricts x, int part, int[] wants) {
        for (int each = 0; each < wants.length; each++) {
            Check.due(what + ", part(" + part + ", " + each + ")", x.part(part, each), wants[each]);
        }
    }

    private static void partIsRefused() {
        FrozenDistricts x = new FrozenDistricts();
        for (int wrong : WRONG) {
            Check.due("18: part " + wrong, x.part(wrong, 0), -1);
            Check.due("18: what " + wrong, x.part(0, wrong), -2);
        }
        Check.due("18: part k", x.part(4, 0), -1);
        Check.due("18: the part is looked at first", x.part(4, 6), -1);
        Check.due("18: what 6", x.part(3, 6), -2);
        FrozenDistricts done = Check.made(y -> {
            freezeThree(y);
            y.freeze(0);
        });
        Check.due("18: no parts when all is done", done.part(0, 0), -1);
    }

    private static void district() {
        FrozenDistricts x = Check.made(TellingTest::freezeThree);
        x.freeze(1);
        toldDistrict(x, 0, new int[] {9, 1, 16, 994, 1, 6, 2, 5});
        toldDistrict(x, 1, new int[] {9, 0, 16, 1000, 2, 18, 3, 3});
        toldDistrict(x, 2, new int[] {9, 1, 16, 1002, 0, 27, 1, 3});
        toldDistrict(x, 3, new int[] {9, 0, 16, 1005, 0, 0, 4, 4});
        x.setVotes(0, 5, 0);
        Check.due("19: won by one, nothing is wasted", x.district(3, 6), 0);
        x.setVotes(0, 4, 0);
        Check.due("19: a draw, all is wasted", x.district(3, 6), 4);
        Check.due("19: a draw, all of the other, too", x.district(3, 7), 4);
        x.setVotes(0, 3, 0);
        Check.due("19: lost, all is wasted", x.district(3, 6), 3);
        Check.due("19: won by one, of the other", x.district(3, 7), 0);
    }

    private static void toldDistrict(FrozenDistricts x, int district, int[] wants) {
        for (int each = 0; each < wants.length; each++) {
            Check.due("19: district(" + district + ", " + each + ")", x.district(district, each), wants[each]);
        }
    }

    private static void districtIsRefused() {
        FrozenDistricts x = Check.made(TellingTest::voteAndPropose);
        Check.due("19: nothing is frozen", x.district(0, 0), -1);
        x.freeze(0);
        Check.due("19: the one", x.district(0, 0), 9);
        Check.due("19: no more than that", x.district(1, 0), -1);
        Check.due("19: the district is looked at first", x.district(1, 8), -1);
        Check.due("19: what 8", x.district(0, 8), -2);
        for (int wrong : WRONG) {
            Check.due("19: district " + wrong, x.district(wrong, 0), -1);
            Check.due("19: what " + wrong, x.district(0, wrong), -2);
        }
        x.begin(4);
        Check.due("19: nothing is frozen again", x.district(0, 0), -1);
    }

    private static void why() {
        FrozenDistricts x = new FrozenDistricts();
        because("20: empty", x, 1, 0);
        x.snake(false);
        because("20: a cut", x, 0, -5);
        x.draft(30, -1);
        x.draft(7, -1);
        because("20: the lowest cell without a part", x, 1, 7);
        x.draft(7, 3);
        because("20: the other one", x, 1, 30);
        x.draft(30, 3);
        because("20: part 1 is too small, part 3 too large", x, 2, 1);
        x.draft(7, 1);
        because("20: a cut again", x, 0, -5);
        x.trade(14, 35);
        because("20: parts 1 and 3 are not connected", x, 3, 1);
        x.trade(0, 20);
        because("20: parts 0 and 2, too", x, 3, 0);
        x.draft(35, 0);
        because("20: the size comes before that", x, 2, 0);
        x.draft(0, -1);
        because("20: the empty cell comes before that", x, 1, 0);
        FrozenDistricts y = Check.made(z -> {
            z.snake(false);
            z.propose();
            z.freeze(0);
        });
        because("20: the lowest open cell", y, 1, 6);
        FrozenDistricts empty = Check.made(z -> {
            z.begin(2);
            for (int cell = 0; cell < 36; cell++) {
                z.draft(cell, 1);
            }
        });
        because("20: a part without cells", empty, 2, 0);
    }

    private static void because(String what, FrozenDistricts x, int reason, int blamed) {
        Check.due(what + ", the reason", x.why(0), reason);
        Check.due(what + ", what is to blame", x.why(1), blamed);
    }

    private static void whyIsRefused() {
        FrozenDistricts x = new FrozenDistricts();
        FrozenDistricts proposed = Check.made(TellingTest::voteAndPropose);
        FrozenDistricts done = Check.made(y -> {
            freezeThree(y);
            y.freeze(0);
        });
        for (int wrong : new int[] {-1, 2, Integer.MIN_VALUE, Integer.MAX_VALUE}) {
            Check.due("20: what " + wrong, x.why(wrong), -2);
            Check.due("20: while proposed, what " + wrong, proposed.why(wrong), -2);
            Check.due("20: all is done, what " + wrong, done.why(wrong), -2);
        }
        Check.due("20: while proposed", proposed.why(0), -4);
        Check.due("20: while proposed", proposed.why(1), -4);
        Check.due("20: all is done", done.why(0), -4);
        Check.due("20: all is done", done.why(1), -4);
    }

    private static void adviceToPlayerOne() {
        advised("21: the only one that it wins", new int[] {5, -6, 0, 2}, 1);
        advised("21: the least margin", new int[] {-5, -3, 4, -4}, 1);
        advised("21: the least margin, the last", new int[] {-5, -3, 4, -1}, 3);
        advised("21: several, the lowest", new int[] {-5, -3, -3, -8}, 1);
        advised("21: wins none, the greatest margin", new int[] {5, 3, 7, 6}, 2);
        advised("21: wins none, several", new int[] {5, 7, 0, 7}, 1);
        advised("21: wins none, a draw or the other", new int[] {0, 0, 2, 0}, 2);
        advised("21: draws alone", new int[] {0, 0, 0, 0}, 0);
    }

    private static void advised(String what, int[] margins, int want) {
        FrozenDistricts x = Check.made(y -> {
            int[] cells = {0, 6, 18, 35};
            for (int part = 0; part < 4; part++) {
                y.setVotes(cells[part], Math.max(margins[part], 0), Math.max(-margins[part], 0));
            }
            y.snake(false);
            y.propose();
        });
        Check.due(what, x.advice(), want);
    }

    private static void adviceToPlayerZero() {
        FrozenDistricts x = Check.made(y -> {
            voteAndPropose(y);
            y.freeze(1);
            y.adopt();
            y.propose();
        });
        Check.due("21: to the player 0", x.advice(), 2);
        x.setVotes(0, 4, 0);
        x.setVotes(35, 1, 3);
        Check.due("21: to the player 0, who wins none", x.advice(), 2);
        x.setVotes(20, 0, 9);
        Check.due("21: to the player 0, who loses most", x.advice(), 1);
        x.setVotes(20, 3, 3);
        x.setVotes(0, 5, 0);
        Check.due("21: to the player 0, who wins one", x.advice(), 0);
    }

    private static void adviceIsRefused() {
        Check.refused("21: no cut is proposed", y -> y.snake(false), FrozenDistricts::advice, -4);
        Check.refused("21: all is done", y -> {
            freezeThree(y);
            y.freeze(0);
        }, FrozenDistricts::advice, -4);
    }

    private static void party() {
        FrozenDistricts x = Check.made(y -> {
            vote(y);
            y.setTarget(0, 3);
            y.setTarget(1, 9);
        });
        toldParty("22: at first", x, 0, new int[] {0, 19, 0, 997, 0});
        toldParty("22: at first", x, 1, new int[] {0, 18, 0, 991, 0});
        x.snake(false);
        toldParty("22: drafted", x, 0, new int[] {0, 19, 0, 997, 2});
        toldParty("22: drafted", x, 1, new int[] {0, 18, 0, 991, 1});
        x.propose();
        Check.due("22: proposed", x.party(0, 4), 2);
        x.freeze(0);
        toldParty("22: one is frozen", x, 0, new int[] {1, 19, 4, 998, 0});
        toldParty("22: one is frozen", x, 1, new int[] {0, 18, 4, 991, 0});
        x.adopt();
        x.propose();
        x.freeze(0);
        toldParty("22: two are frozen", x, 0, new int[] {1, 19, 6, 998, 0});
        toldParty("22: two are frozen", x, 1, new int[] {1, 18, 9, 992, 0});
        x.adopt();
        toldParty("22: two are drafted", x, 0, new int[] {1, 19, 6, 998, 1});
        x.propose();
        x.freeze(0);
        toldParty("22: all is done", x, 0, new int[] {2, 19, 10, 999, 0});
        toldParty("22: all is done", x, 1, new int[] {1, 18, 15, 992, 0});
        for (int wrong : new int[] {-1, 2, Integer.MIN_VALUE, Integer.MAX_VALUE}) {
            Check.due("22: party " + wrong, x.party(wrong, 0), -1);
            Check.due("22: party and what " + wrong, x.party(wrong, 5), -1);
        }
        for (int wrong : new int[] {-1, 5, Integer.MIN_VALUE, Integer.MAX_VALUE}) {
            Check.due("22: what " + wrong, x.party(0, wrong), -2);
        }
    }

    private static void toldParty(String what, FrozenDistricts x, int party, int[] wants) {
        for (int each = 0; each < wants.length; each++) {
            Check.due(what + ", party(" + party + ", " + each + ")", x.party(party, each), wants[each]);
        }
    }

    private static void fairness() {
        FrozenDistricts x = Check.made(TellingTest::voteAndPropose);
        Check.due("23: nothing is frozen", x.fairness(), 100000);
        x.freeze(1);
        Check.due("23: a seat of the party 1", x.fairness(), 100000 - 19);
        x.adopt();
        x.propose();
        x.freeze(0);
        Check.due("23: a seat of each", x.fairness(), 100000 + 37 - 2 * 19);
        x.adopt();
        x.propose();
        x.freeze(1);
        Check.due("23: all is done", x.fairness(), 100000 + 2 * 37 - 4 * 19);
        x.setVotes(35, 9, 0);
        Check.due("23: by the votes as they are", x.fairness(), 100000 + 2 * 39 - 4 * 24);
        Check.due("23: without votes", new FrozenDistricts().fairness(), 100000);
    }

    private static void count() {
        FrozenDistricts x = Check.made(TellingTest::vote);
        counted("24: at first", x, new int[] {4, 9, 0, 4, 0, 0, 36, 36, 0, 0, 4, 0});
        x.draft(0, 0);
        x.type('1');
        counted("24: one is drafted", x, new int[] {4, 9, 0, 4, 0, 0, 36, 35, 0, 0, 4, 1});
        x.snake(false);
        counted("24: drafted", x, new int[] {4, 9, 0, 4, 0, 0, 36, 0, 0, 0, 4, 1});
        x.propose();
        counted("24: proposed", x, new int[] {4, 9, 0, 4, 1, 1, 36, 0, 0, 0, 4, 1});
        x.freeze(2);
        counted("24: one is frozen", x, new int[] {4, 9, 1, 3, 0, 1, 27, 27, 16, 1, 4, 1});
        x.adopt();
        x.propose();
        counted("24: proposed again", x, new int[] {4, 9, 1, 3, 1, 0, 27, 0, 16, 1, 4, 1});
        x.freeze(0);
        x.adopt();
        x.propose();
        counted("24: proposed at last", x, new int[] {4, 9, 2, 2, 1, 1, 18, 0, 32, 1, 4, 1});
        x.freeze(0);
        counted("24: all is done", x, new int[] {4, 9, 4, 0, 2, -5, 0, 0, 64, 1, 4, 1});
        x.clearText();
        x.begin(9);
        counted("24: begun anew", x, new int[] {9, 4, 0, 9, 0, 0, 36, 36, 0, 0, 4, 0});
        for (int wrong : new int[] {-1, 12, Integer.MIN_VALUE, Integer.MAX_VALUE}) {
            Check.due("24: what " + wrong, x.count(wrong), -2);
        }
    }

    private static void counted(String what, FrozenDistricts x, int[] wants) {
        for (int each = 0; each < wants.length; each++) {
            Check.due(what + ", count(" + each + ")", x.count(each), wants[each]);
        }
    }

    private static void tellingChangesNothing() {
        Check.Setup[] setups = {
            TellingTest::vote, TellingTest::voteAndPropose, TellingTest::freezeThree, x -> x.draft(3, 3),
        };
        for (Check.Setup setup : setups) {
            Check.same("17 to 24: telling changes nothing", x -> {
                setup.on(x);
                x.why(1);
                x.advice();
                x.part(0, 1);
                x.part(0, 9);
                x.cell(0, 4);
                x.party(0, 4);
            }, setup);
        }
    }
}
