import java.util.Map;

/** The edges of the document's sentences on texts and of its promises 11 to 13, each with a test of its own. */
public final class TextEdgesTest {
    public static void main(String[] args) {
        emptyAtFirst();
        atMostSixtyCharacters();
        anyCharacter();
        typingIsNoAct();
        clearReturnsTheLength();
        clearingMakesRoom();
        eachCharacterAtEachPlace();
        theFirstCharacterThatIsNotAllowed();
        theLengthIfItEndsTooEarly();
        commasBetweenPairsAlone();
        oneToTwentyPairs();
        firstAndSecondDigit();
        fromACellToTheLast();
        notSoManyCells();
        votesOfFrozenCells();
        theTextStays();
        oneAct();
        faultsRecordNothing();
        orderOfErrors();
        Check.end("TextEdgesTest");
    }

    /** So many pairs, "12" each, and "," between two. */
    private static String pairs(int number) {
        StringBuilder text = new StringBuilder();
        for (int pair = 0; pair < number; pair++) {
            text.append(pair == 0 ? "12" : ",12");
        }
        return text.toString();
    }

    private static Check.Setup written(String text) {
        return x -> Check.write(x, text);
    }

    // "There is a text of at most 60 characters, empty at first."
    private static void emptyAtFirst() {
        Check.due("its length", new FrozenDistricts().count(11), 0);
        Check.due("cleared", new FrozenDistricts().clearText(), 0);
        Check.refused("read", x -> { }, x -> x.readVotes(0), -100);
    }

    // "Returns the length of the text then; FULL if it has 60 characters."
    private static void atMostSixtyCharacters() {
        FrozenDistricts x = new FrozenDistricts();
        for (int length = 1; length <= 60; length++) {
            Check.due("the length then", x.type((char) ('0' + length % 10)), length);
            Check.due("the length told", x.count(11), length);
        }
        for (char sign : new char[] {'1', ',', ' ', (char) 0, (char) 65535}) {
            Check.refused("the 61st", written(pairs(20) + ","), y -> y.type(sign), -3);
        }
        FrozenDistricts full = Check.made(written(pairs(20) + ","));
        Check.due("the 61st", full.type('1'), -3);
        Check.due("the 61st again", full.type('1'), -3);
        Check.due("still 60", full.clearText(), 60);
        Check.due("59 and one more", Check.made(written(pairs(20))).type(','), 60);
    }

    // "character: any character"
    private static void anyCharacter() {
        for (int sign = 0; sign <= 65535; sign++) {
            Check.due("the character " + sign, new FrozenDistricts().type((char) sign), 1);
        }
    }

    // type and clearText are not described as acts
    private static void typingIsNoAct() {
        FrozenDistricts x = Check.made(y -> {
            y.setTarget(0, 1);
            y.type('1');
            y.type('2');
            y.clearText();
            y.type('3');
        });
        Check.due("states of the history", x.count(10), 1);
        Check.due("undone", x.undo(), 0);
        Check.due("the text is no part of the state", x.count(11), 1);
    }

    // "Empties the text. Returns the length that it had."
    private static void clearReturnsTheLength() {
        for (int length = 0; length <= 60; length++) {
            FrozenDistricts x = new FrozenDistricts();
            for (int each = 0; each < length; each++) {
                x.type('7');
            }
            Check.due("the length that it had", x.clearText(), length);
            Check.due("it is empty", x.count(11), 0);
            Check.due("it was empty", x.clearText(), 0);
            Check.due("nothing is left of it", x.readVotes(0), -100);
        }
    }

    private static void clearingMakesRoom() {
        FrozenDistricts x = Check.made(written(pairs(20) + ","));
        x.clearText();
        for (int length = 1; length <= 60; length++) {
            Check.due("typed anew", x.type('5'), length);
        }
        Check.due("full again", x.type('5'), -3);
        x.clearText();
        Check.write(x, "98");
        Check.due("only what is typed anew is read", x.readVotes(3), 1);
        Check.due("its votes for 0", x.cell(3, 0), 9);
        Check.due("its votes for 1", x.cell(3, 1), 8);
    }

    // "the index, from 0, of the first character that is not allowed at its place": all characters
    private static void eachCharacterAtEachPlace() {
        String[] before = {"", "1", "12", "12,", "12,3", "12,34"};
        for (int place = 0; place < before.length; place++) {
            for (int sign = 0; sign <= 65535; sign++) {
                FrozenDistricts x = Check.made(written(before[place]));
                x.type((char) sign);
                boolean allowed = place % 3 == 2 ? sign == ',' : sign >= '0' && sign <= '9';
                int want = -100 - (allowed ? place + 1 : place);
                if (allowed && place % 3 == 1) {
                    want = (place + 2) / 3;
                }
                Check.due("the character " + sign + " at the place " + place, x.readVotes(0), want);
            }
        }
    }

    private static void theFirstCharacterThatIsNotAllowed() {
        String good = pairs(20) + ",";
        for (int place = 0; place < 60; place++) {
            for (char sign : new char[] {'x', ' ', '-', (char) 0, place % 3 == 2 ? '1' : ','}) {
                String text = good.substring(0, place) + sign + good.substring(place + 1);
                Check.due("a fault at " + place, Check.made(written(text)).readVotes(0), -100 - place);
                String cut = good.substring(0, place) + sign;
                Check.due("a fault at the end, " + place, Check.made(written(cut)).readVotes(0), -100 - place);
                String two = good.substring(0, place) + sign + "?" + good.substring(place + 1);
                String sixty = two.substring(0, 60);
                Check.due("the first of two, " + place, Check.made(written(sixty)).readVotes(0), -100 - place);
            }
        }
    }

    // "or the length of the text if it ends too early (the empty text does)"
    private static void theLengthIfItEndsTooEarly() {
        String good = pairs(20) + ",";
        for (int length = 0; length <= 60; length++) {
            int want = length % 3 == 2 ? (length + 1) / 3 : -100 - length;
            Check.due("a text of " + length, Check.made(written(good.substring(0, length))).readVotes(0), want);
        }
    }

    // "with ',' between two": not in front, not behind, not twice, and nothing else
    private static void commasBetweenPairsAlone() {
        String[] texts = {",12", "12,", "12,,34", "12,34,", "1,2", "1234", "12 34", "12;34", "12.34", "12, 34", " 12", "12 "};
        int[] faults = {0, 3, 3, 6, 1, 2, 2, 2, 2, 3, 0, 2};
        for (int each = 0; each < texts.length; each++) {
            Check.refused("the text '" + texts[each] + "'", written(texts[each]), x -> x.readVotes(0), -100 - faults[each]);
        }
    }

    // "A text of votes is one to 36 pairs": 60 characters hold 20 at most
    private static void oneToTwentyPairs() {
        for (int number = 1; number <= 20; number++) {
            FrozenDistricts x = Check.made(written(pairs(number)));
            Check.due("how many pairs", x.readVotes(0), number);
            Check.due("votes for 0", x.party(0, 1), number);
            Check.due("votes for 1", x.party(1, 1), 2 * number);
            Check.due("in the last of them", x.cell(number - 1, 1), 2);
            Check.due("not behind them", x.cell(number, 1), 0);
        }
    }

    // "the first digit for the party 0, the second one for the party 1": each pair
    private static void firstAndSecondDigit() {
        for (int votes = 0; votes < 100; votes++) {
            FrozenDistricts x = Check.made(y -> y.setVotes(7, 5, 5));
            x.type((char) ('0' + votes / 10));
            x.type((char) ('0' + votes % 10));
            Check.due("one pair", x.readVotes(7), 1);
            Check.due("the first digit of " + votes, x.cell(7, 0), votes / 10);
            Check.due("the second digit of " + votes, x.cell(7, 1), votes % 10);
        }
    }

    // "of a cell and those behind it, one after the other"; "BAD_VALUE if there are not so many cells"
    private static void fromACellToTheLast() {
        for (int number = 1; number <= 20; number++) {
            for (int cell = 0; cell <= 36 - number; cell++) {
                FrozenDistricts x = Check.made(written(pairs(number)));
                Check.due(number + " pairs from " + cell, x.readVotes(cell), number);
                Check.due("the first of them", x.cell(cell, 1), 2);
                Check.due("the last of them", x.cell(cell + number - 1, 0), 1);
                Check.due("no other one", x.party(1, 1), 2 * number);
            }
        }
    }

    private static void notSoManyCells() {
        for (int number = 2; number <= 20; number++) {
            for (int cell = 36 - number + 1; cell < 36; cell++) {
                Check.due(number + " pairs from " + cell, Check.made(written(pairs(number))).readVotes(cell), -2);
            }
            int first = 36 - number + 1;
            Check.refused(number + " pairs from " + first, written(pairs(number)), x -> x.readVotes(first), -2);
        }
    }

    // "Sets the votes of cells": at each stage, of open cells and of frozen ones
    private static void votesOfFrozenCells() {
        for (Map.Entry<String, Check.Setup> stage : Play.stages().entrySet()) {
            FrozenDistricts x = Check.made(y -> {
                stage.getValue().on(y);
                Check.write(y, pairs(18));
            });
            Check.due(stage.getKey() + ", the upper half", x.readVotes(0), 18);
            Check.due(stage.getKey() + ", the lower half", x.readVotes(18), 18);
            Check.due(stage.getKey() + ", their votes", x.party(1, 1), 72);
            Check.due(stage.getKey() + ", undone", x.undo() >= 0 ? x.party(1, 1) : -1, 36);
        }
    }

    // "by the text, which stays"
    private static void theTextStays() {
        FrozenDistricts x = Check.made(written("12,34"));
        Check.due("read", x.readVotes(0), 2);
        Check.due("its length", x.count(11), 5);
        Check.due("read again", x.readVotes(10), 2);
        Check.due("its votes", x.cell(11, 1), 4);
        Check.due("a fault", x.type(',') - x.readVotes(0), 112);
        Check.due("more of it", x.type('5') + x.type('6'), 15);
        Check.due("all of it", x.readVotes(0), 3);
    }

    // "This is one act."; the promise names no NONE
    private static void oneAct() {
        FrozenDistricts x = Check.made(written(pairs(20)));
        Check.due("read", x.readVotes(16), 20);
        Check.due("one state", x.count(10), 1);
        Check.due("read again, so already", x.readVotes(16), 20);
        Check.due("another one", x.count(10), 2);
        Check.due("undone", x.undo(), 1);
        Check.due("so as before", x.party(0, 1), 20);
        Check.due("undone at once", x.undo(), 0);
        Check.due("no votes", x.party(0, 1), 0);
    }

    // "-100 minus the fault of the text if it has one (which is an error)"
    private static void faultsRecordNothing() {
        Check.Setup setup = x -> {
            x.setVotes(0, 7, 7);
            Check.write(x, "12,34,5");
        };
        Check.refused("ends too early", setup, x -> x.readVotes(0), -107);
        Check.refused("a fault behind good pairs", x -> {
            x.setVotes(0, 7, 7);
            Check.write(x, "12,34,5x");
        }, x -> x.readVotes(0), -107);
    }

    // "UNKNOWN; -100 minus the fault ...; BAD_VALUE": in this order
    private static void orderOfErrors() {
        for (int wrong : Play.outside(36)) {
            Check.refused("no cell, an empty text", x -> { }, x -> x.readVotes(wrong), -1);
            Check.refused("no cell, a fault", written("1x"), x -> x.readVotes(wrong), -1);
            Check.refused("no cell, many pairs", written(pairs(20)), x -> x.readVotes(wrong), -1);
        }
        Check.refused("a fault, many pairs", written(pairs(20) + ","), x -> x.readVotes(35), -160);
        Check.refused("a fault at the end, many pairs", written(pairs(19) + ",1x"), x -> x.readVotes(35), -158);
    }
}
