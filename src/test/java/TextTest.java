/** Promises 11 to 13: type, clearText, readVotes. */
public final class TextTest {
    public static void main(String[] args) {
        type();
        clearText();
        readVotes();
        readVotesIsRefused();
        faults();
        Check.end("TextTest");
    }

    private static void type() {
        FrozenDistricts x = new FrozenDistricts();
        for (int length = 1; length <= 60; length++) {
            Check.due("11: the length then", x.type('7'), length);
        }
        Check.due("11: full", x.type('7'), -3);
        Check.due("11: full again", x.type((char) 0), -3);
        Check.due("11: no more than 60", x.count(11), 60);
        Check.due("11: no act", x.count(10), 0);
        FrozenDistricts y = new FrozenDistricts();
        char[] any = {(char) 0, ' ', 'x', ',', (char) 233, (char) 65535};
        for (int index = 0; index < any.length; index++) {
            Check.due("11: any character", y.type(any[index]), index + 1);
        }
        Check.refused("11: full changes nothing", z -> Check.write(z, pairs(20) + ","), z -> z.type('1'), -3);
        FrozenDistricts z = Check.made(v -> Check.write(v, pairs(20) + ","));
        z.type('1');
        Check.due("11: the text stays when full", z.readVotes(0), -160);
    }

    private static void clearText() {
        FrozenDistricts x = new FrozenDistricts();
        Check.due("12: empty", x.clearText(), 0);
        Check.write(x, "12,34");
        Check.due("12: the length that it had", x.clearText(), 5);
        Check.due("12: empty then", x.count(11), 0);
        Check.due("12: empty again", x.clearText(), 0);
        Check.due("12: nothing to read", x.readVotes(0), -100);
        Check.due("12: typed anew", x.type('5'), 1);
        Check.due("12: no act", x.count(10), 0);
        FrozenDistricts full = Check.made(y -> Check.write(y, pairs(20) + ","));
        Check.due("12: of a full one", full.clearText(), 60);
        Check.due("12: there is room again", full.type('5'), 1);
    }

    private static void readVotes() {
        FrozenDistricts x = Check.made(y -> Check.write(y, "90,05,38"));
        Check.due("13: how many pairs", x.readVotes(4), 3);
        int[] cells = {4, 5, 6};
        int[] first = {9, 0, 3};
        int[] second = {0, 5, 8};
        for (int each = 0; each < cells.length; each++) {
            Check.due("13: for 0", x.cell(cells[each], 0), first[each]);
            Check.due("13: for 1", x.cell(cells[each], 1), second[each]);
        }
        Check.due("13: not before", x.cell(3, 0), 0);
        Check.due("13: not behind", x.cell(7, 1), 0);
        Check.due("13: one act", x.count(10), 1);
        Check.due("13: the text stays", x.count(11), 8);
        Check.due("13: read again, an act", x.readVotes(4), 3);
        Check.due("13: two acts", x.count(10), 2);
        Check.due("13: to the last cell", x.readVotes(33), 3);
        Check.due("13: in the last cell", x.cell(35, 1), 8);
        Check.due("13: undone", x.undo(), 2);
        Check.due("13: as before", x.cell(35, 1), 0);
        FrozenDistricts one = Check.made(y -> Check.write(y, "27"));
        Check.due("13: one pair", one.readVotes(35), 1);
        Check.due("13: one pair for 0", one.cell(35, 0), 2);
        Check.due("13: one pair for 1", one.cell(35, 1), 7);
        FrozenDistricts many = Check.made(y -> Check.write(y, pairs(20)));
        Check.due("13: the most pairs", many.readVotes(16), 20);
        Check.due("13: their sum", many.party(0, 1), 20);
        FrozenDistricts frozen = Check.made(y -> {
            y.begin(2);
            y.snake(false);
            y.propose();
            y.freeze(0);
            Check.write(y, "63");
        });
        Check.due("13: of frozen cells", frozen.readVotes(0), 1);
        Check.due("13: the district follows", frozen.district(0, 3), 1003);
    }

    private static void readVotesIsRefused() {
        Check.Setup three = x -> Check.write(x, "11,22,33");
        Check.refused("13: cell -1", three, x -> x.readVotes(-1), -1);
        Check.refused("13: cell 36", three, x -> x.readVotes(36), -1);
        Check.refused("13: the greatest cell", three, x -> x.readVotes(Integer.MAX_VALUE), -1);
        Check.refused("13: not so many cells", three, x -> x.readVotes(34), -2);
        Check.refused("13: not so many cells at all", three, x -> x.readVotes(35), -2);
        Check.refused("13: the most pairs, a cell too few", x -> Check.write(x, pairs(20)), x -> x.readVotes(17), -2);
        Check.Setup faulty = x -> Check.write(x, "11,22,3");
        Check.refused("13: the cell is looked at first", faulty, x -> x.readVotes(36), -1);
        Check.refused("13: the fault comes before the room", faulty, x -> x.readVotes(35), -107);
        Check.refused("13: an empty text", x -> x.setVotes(0, 1, 1), x -> x.readVotes(0), -100);
    }

    private static void faults() {
        String[] texts = {
            "", "1", "12,", "12,3", "12,34,",
            "x", "1x", "12x", "12,x", "12,3x", "12,34x",
            ",", "1,", "123", "12,,", "12,345", "12;34", " 12", "12 ", "12,34,5-",
            "/0", ":0", "0/", "0:", "12+34", "12-34", "" + (char) 0, "1" + (char) 1586, "12" + (char) 0xFF0C,
            "x12,34", "12x34,5",
        };
        int[] faults = {
            0, 1, 3, 4, 6,
            0, 1, 2, 3, 4, 5,
            0, 1, 2, 3, 5, 2, 0, 2, 7,
            0, 0, 1, 1, 2, 2, 0, 1, 2,
            0, 2,
        };
        for (int each = 0; each < texts.length; each++) {
            String text = texts[each];
            int fault = -100 - faults[each];
            Check.refused("13: the fault of '" + text + "'", x -> Check.write(x, text), x -> x.readVotes(0), fault);
        }
        Check.refused("13: a text of 60", x -> Check.write(x, pairs(20) + ","), x -> x.readVotes(0), -160);
        Check.refused("13: the last of 60", x -> Check.write(x, pairs(20) + "x"), x -> x.readVotes(0), -159);
    }

    private static String pairs(int number) {
        StringBuilder text = new StringBuilder();
        for (int pair = 0; pair < number; pair++) {
            text.append(pair == 0 ? "12" : ",12");
        }
        return text.toString();
    }
}
