import java.util.function.IntUnaryOperator;

/**
 * The edges of command texts: every byte at every kind of place, words that are too short, too long or unknown, numbers
 * of six and seven digits, texts of 0 and of 150 bytes, where a text ends too soon, and how a run stops.
 */
public final class TextEdgeTest extends Checks {
    private static final String[] WORDS = {"trail", "point", "star", "pole", "set", "back", "search"};
    private static final int[] NUMBERS = {0, 4, 3, 2, 2, 1, 1};

    private static int answer(String text) {
        return run(new ArcPlate(), text);
    }

    private static int fault(int index) {
        return -10 - index;
    }

    private static boolean isLetter(int value) {
        return value >= 97 && value <= 122;
    }

    private static boolean isDigit(int value) {
        return value >= 48 && value <= 57;
    }

    /** Every byte between two parts of a text. */
    private static void everyByte(String before, String behind, IntUnaryOperator want) {
        for (int value = 0; value <= 127; value++) {
            due(want.applyAsInt(value), answer(before + (char) value + behind),
                "byte " + value + " between \"" + before + "\" and \"" + behind + "\"");
        }
    }

    private static void bytesWhereACommandBegins() {
        tell("spaces may stand in front of a command and at the end");
        everyByte("", "", b -> b == ' ' ? 0 : fault(0));
        everyByte("", "trail;", b -> b == ' ' ? 1 : fault(0));
        everyByte("trail;", "", b -> b == ' ' ? 1 : fault(6));
        everyByte("trail;", "trail;", b -> b == ' ' ? 2 : fault(6));
        everyByte("trail; ", "trail;", b -> b == ' ' ? 2 : fault(7));
    }

    private static void bytesOfAWord() {
        tell("a word of letters a to z, at fault with its first byte when it is complete");
        everyByte("", "rail;", b -> b == 't' ? 1 : b == ' ' ? fault(1) : fault(0));
        everyByte("tra", "l;", b -> b == 'i' ? 1 : fault(0));
        everyByte("trai", ";", b -> b == 'l' ? 1 : fault(0));
        everyByte("trai", "", b -> b == 'l' ? fault(5) : fault(0));
        everyByte("se", " 3 7;", b -> b == 't' ? 1 : fault(0));
    }

    private static void bytesBehindAWord() {
        tell("behind a word come its numbers, each with at least one space in front, and a semicolon");
        everyByte("trail", "", b -> b == ';' ? 1 : b == ' ' ? fault(6) : isLetter(b) ? fault(0) : fault(5));
        everyByte("trail ", "", b -> b == ';' ? 1 : b == ' ' ? fault(7) : fault(6));
        everyByte("set", "3 7;", b -> b == ' ' ? 1 : isLetter(b) ? fault(0) : fault(3));
        everyByte("set", "", b -> b == ' ' ? fault(4) : isLetter(b) ? fault(0) : fault(3));
        everyByte("set ", "", b -> b == ' ' || isDigit(b) ? fault(5) : fault(4));
    }

    private static void bytesOfNumbers() {
        tell("numbers of digits, with spaces in front of them and in front of the semicolon");
        everyByte("set ", " 7;", b -> isDigit(b) ? 1 : b == ' ' ? fault(7) : fault(4));
        everyByte("set 3", "7;", b -> b == ' ' ? 1 : isDigit(b) ? fault(7) : fault(5));
        everyByte("set 3 ", "", b -> b == ' ' || isDigit(b) ? fault(7) : fault(6));
        everyByte("set 3 7", "", b -> b == ';' ? 1 : b == ' ' || isDigit(b) ? fault(8) : fault(7));
        everyByte("set 3 7", ";", b -> b == ' ' || isDigit(b) ? 1 : b == ';' ? fault(8) : fault(7));
        everyByte("set 3 7 ", "", b -> b == ';' ? 1 : b == ' ' ? fault(9) : fault(8));
        tell("a seventh digit cannot stand");
        everyByte("set 3 000007", "", b -> b == ';' ? 1 : b == ' ' ? fault(13) : fault(12));
        everyByte("set 3 00007", "", b -> b == ';' ? 1 : b == ' ' || isDigit(b) ? fault(12) : fault(11));
        everyByte("set 000003", "7;", b -> b == ' ' ? 1 : fault(10));
    }

    private static String command(String word, int numbers) {
        return word + " 1".repeat(numbers);
    }

    private static void eachWord() {
        for (int w = 0; w < WORDS.length; w++) {
            String word = WORDS[w];
            int length = word.length();
            tell("the word " + word + ", whole, in parts and with more letters");
            for (int part = 1; part < length; part++) {
                due(fault(0), answer(word.substring(0, part)), word.substring(0, part));
                due(fault(0), answer(word.substring(0, part) + ";"), word.substring(0, part) + ";");
                due(fault(0), answer(word.substring(part) + ";"), word.substring(part) + ";");
                String split = word.substring(0, part) + " " + word.substring(part);
                due(fault(0), answer(command(split, NUMBERS[w]) + ";"), split);
            }
            due(fault(length), answer(word), word + " and the end");
            due(fault(0), answer(command(word + "s", NUMBERS[w]) + ";"), word + "s");
            due(fault(0), answer(command("s" + word, NUMBERS[w]) + ";"), "s" + word);
            due(fault(0), answer(command(word + word, NUMBERS[w]) + ";"), word + " twice");
            due(fault(0), answer(command(word.toUpperCase(), NUMBERS[w]) + ";"), word.toUpperCase());
            String last = word.substring(0, length - 1) + word.substring(length - 1).toUpperCase();
            due(fault(0), answer(command(last, NUMBERS[w]) + ";"), last);
        }
        tell("words that are none");
        for (String word : new String[] {"a", "z", "undo", "stop", "addtrail", "trails", "poles", "trial", "sta", "see"}) {
            due(fault(3), answer("   " + word + " 1;"), word);
            due(fault(6), answer("trail;" + word), word + " at the end, behind a command");
        }
    }

    private static void numbersOfEachWord() {
        for (int w = 0; w < WORDS.length; w++) {
            tell("the numbers of " + WORDS[w] + ": " + NUMBERS[w]);
            for (int n = 0; n < NUMBERS[w]; n++) {
                String text = command(WORDS[w], n);
                due(fault(text.length()), answer(text + ";"), text + ";");
                due(fault(text.length() + 1), answer(text + " ;"), text + " ;");
                due(fault(text.length()), answer(text), text + " and the end");
                due(fault(text.length() + 1), answer(text + " "), text + ", a space and the end");
            }
            String whole = command(WORDS[w], NUMBERS[w]);
            due(fault(whole.length()), answer(whole), whole + " and the end");
            due(fault(whole.length() + 2), answer(whole + "  "), whole + ", two spaces and the end");
            due(fault(whole.length() + 1), answer(whole + " 1;"), whole + " 1;");
            due(fault(whole.length() + 6), answer("trail;" + whole), "trail;" + whole + " and the end");
            ArcPlate plate = withTrails(2);
            due(1, run(plate, whole + ";"), whole + ";");
            due(0, plate.stop(), "stop of " + whole + ";");
        }
    }

    private static void faultsAtEachIndex() {
        tell("the fault is the index of the first byte that cannot stand, or the length");
        for (int index = 0; index < 150; index++) {
            ArcPlate plate = new ArcPlate();
            due(fault(index), run(plate, " ".repeat(index) + "X"), "a sign at " + index);
            due(index + 1, plate.clearCommands(), "length of the text");
        }
        for (int index = 0; index <= 145; index++) {
            due(fault(index + 5), answer(" ".repeat(index) + "trail"), "a text that ends at " + (index + 5));
            due(fault(index), answer(" ".repeat(index) + "trial"), "an unknown word at " + index);
        }
        due(fault(150), answer("trail;".repeat(24) + " trail"), "150 bytes that end too soon");
        due(fault(149), answer("trail;".repeat(24) + "trail5"), "the last of 150 bytes");
        due(fault(149), answer(" ".repeat(149) + "t"), "half a word as the last of 150 bytes");
        due(fault(3), answer("   Xyz;;;1"), "the first of several faults");
        due(fault(6), answer("trail;1 trial;"), "the first of several faults behind a command");
    }

    private static void textsWithoutCommands() {
        tell("a text that is empty, or has spaces alone, has no fault");
        for (int length = 0; length <= 150; length += 25) {
            ArcPlate plate = new ArcPlate();
            due(0, run(plate, " ".repeat(length)), length + " spaces");
            due(0, plate.stop(), "stop of spaces");
            due(0, plate.undo(), "a state is saved");
            badState(plate, "one more undo", plate::undo);
            due(length, plate.clearCommands(), "length of spaces");
        }
    }

    private static void atMost150Bytes() {
        tell("the command text has at most 150 bytes");
        ArcPlate plate = new ArcPlate();
        for (int round = 0; round < 2; round++) {
            for (int n = 1; n <= 150; n++) {
                due(n, plate.type(n <= 128 ? n - 1 : ' '), "byte " + n);
            }
            badState(plate, "byte 151", () -> plate.type(0));
            badState(plate, "byte 151, a space", () -> plate.type(' '));
            badValue(plate, "byte 151, out of range below", () -> plate.type(-1));
            badValue(plate, "byte 151, out of range above", () -> plate.type(128));
            due(150, plate.clearCommands(), "length when it is full");
            due(0, plate.clearCommands(), "length when it is empty");
        }
        tell("150 bytes of commands");
        ArcPlate full = new ArcPlate();
        due(12, run(full, "trail;".repeat(25)), "trails by 25 commands");
        due(3, full.stop(), "stop of the 13th");
        due(12, full.whole(0), "trails");
        due(0, full.undo(), "one state for all");
        due(0, full.whole(0), "trails after undo");
        due(12, full.runCommands(), "the same text once more");
        due(150, full.clearCommands(), "its length");
        ArcPlate rates = new ArcPlate();
        due(21, run(rates, "back 1;".repeat(20) + "back 0002;"), "150 bytes of rates");
        due(-2, rates.setting(0), "the last one");
    }

    private static void numbersByTheirDigits() {
        tell("one to six digits, zeros in front are allowed");
        String[] texts = {"set 4 0;", "set 4 000000;", "set 4 000001;", "set 4 9;", "set 4 10;", "set 4 099999;",
            "set 4 123456;", "set 4 180000;", "set 000004 7;", "set  4  8 ;", "  set   4   9   ;  "};
        int[] due = {0, 0, 1, 9, 10, 99999, 123456, 180000, 7, 8, 9};
        for (int i = 0; i < texts.length; i++) {
            ArcPlate plate = new ArcPlate();
            due(1, run(plate, texts[i]), texts[i]);
            due(due[i], plate.setting(4), "tolerance by " + texts[i]);
        }
        due(fault(12), answer("set 4 0000001;"), "seven digits");
        due(fault(10), answer("set 0000004 1;"), "seven digits of the first number");
        due(fault(6), answer("set 4 -1;"), "a sign");
        due(fault(7), answer("set 4 1.5;"), "a point");
        due(fault(8), answer("set 4 1 ,"), "a comma");
    }

    private static void numbersOutOfRange() {
        tell("that a number is out of its range is no fault, but a stop");
        String[] texts = {"set 10 0;", "set 999999 0;", "set 0 5001;", "set 1 101;", "set 2 101;", "set 3 501;",
            "set 4 180001;", "set 5 5001;", "set 6 0;", "set 6 1001;", "set 7 0;", "set 7 100001;", "set 8 360000;",
            "set 9 10;", "set 9 999999;", "pole 6001 0;", "pole 0 6001;", "search 0;", "search 513;", "search 999999;",
            "star 0 0 0;", "star 100001 0 0;", "star 1 360000 0;", "star 1 0 10;", "back 5001;", "back 999999;"};
        for (String text : texts) {
            ArcPlate plate = new ArcPlate();
            due(0, run(plate, text + "trail;"), text);
            due(2, plate.stop(), "stop of " + text);
            due(0, plate.whole(0), "trails behind " + text);
            due(0, plate.undo(), "the state saved by " + text);
        }
        String[] points = {"point 0 1001 0 0;", "point 0 0 4001 0;", "point 0 0 0 4001;", "point 0 999999 999999 999999;"};
        for (String text : points) {
            ArcPlate plate = new ArcPlate();
            due(1, run(plate, "trail;" + text + "trail;"), text);
            due(2, plate.stop(), "stop of " + text);
            due(1, plate.whole(0), "trails behind " + text);
        }
    }

    private static void numbersAtTheirEnds() {
        tell("numbers at the ends of their ranges are carried out");
        ArcPlate plate = new ArcPlate();
        due(10, run(plate, "set 0 5000;set 1 100;set 2 100;set 3 500;set 4 180000;set 5 5000;set 6 1000;set 7 100000;"
            + "set 8 359999;set 9 9;"), "the greatest settings");
        due(0, plate.stop(), "their stop");
        dueSettings(plate, 5000, 100, 100, 500, 180000, 5000, 1000, 100000, 359999, 9);
        due(10, run(plate, "back 5000;set 1 0;set 2 0;set 3 0;set 4 0;set 5 0;set 6 1;set 7 1;set 8 0;set 9 0;"),
            "the least settings that can be written");
        dueSettings(plate, -5000, 0, 0, 0, 0, 0, 1, 1, 0, 0);
        ArcPlate other = new ArcPlate();
        due(9, run(other, "star 100000 359999 9;star 1 0 0;trail;point 0 1000 4000 4000;point 0 0 0 0;search 512;"
            + "search 1;pole 0 0;pole 6000 6000;"), "stars, points, searches and poles");
        due(0, other.stop(), "their stop");
        dueStar(other, 0, 100000, 359999, 9);
        dueStar(other, 1, 1, 0, 0);
        dueFrames(other, 0, 0, 1000);
        due(4000, other.point(0, 1, 1), "x of the last point");
        due(0, other.point(0, 0, 2), "y of the first point");
        due(6000, other.whole(2), "x of the pole");
        due(6000, other.whole(3), "y of the pole");
    }

    private static void backIsTheNegativeRate() {
        tell("back r is set(0, -r)");
        int[] rates = {0, 1, 250, 5000};
        for (int rate : rates) {
            ArcPlate plate = new ArcPlate();
            due(1, run(plate, "back " + rate + ";"), "back " + rate);
            due(-rate, plate.setting(0), "rate by back " + rate);
        }
    }

    private static void dueStop(ArcPlate plate, String text, int done, int stop) {
        due(done, run(plate, text), text);
        due(stop, plate.stop(), "stop of " + text);
    }

    private static void stopsOfEachKind() {
        tell("promise 27: 1 for an index, 2 for an argument, 3 for a state");
        dueStop(new ArcPlate(), "point 0 0 0 0;", 0, 1);
        dueStop(withTrails(11), "point 11 0 0 0;", 0, 1);
        dueStop(withTrails(12), "point 12 0 0 0;", 0, 1);
        dueStop(withTrails(12), "point 11 0 0 0;point 999999 0 0 0;", 1, 1);
        dueStop(withTrails(12), "trail;", 0, 3);
        dueStop(withTrails(11), "trail;trail;", 1, 3);
        dueStop(withPoints(1, 5, 5), "point 0 0 5 5;", 0, 3);
        dueStop(withPoints(1, 5, 5), "point 0 1 5 5;point 0 1 6 6;", 1, 3);
        dueStop(fullPlate(), "star 1 0 0;", 0, 3);
        dueStop(fullPlate(), "point 11 1 0 0;", 0, 3);
        tell("of several exceptions of a command the one that is listed first");
        dueStop(new ArcPlate(), "point 0 1001 4001 4001;", 0, 1);
        dueStop(withTrails(12), "point 12 1001 0 0;", 0, 1);
        dueStop(fullPlate(), "point 0 1001 0 0;", 0, 2);
        dueStop(fullPlate(), "point 0 1 4001 0;", 0, 2);
        dueStop(fullPlate(), "star 0 0 0;", 0, 2);
        dueStop(fullPlate(), "star 1 360000 0;", 0, 2);
        dueStop(withPoints(1, 5, 5), "point 0 0 4001 5;", 0, 2);
    }

    private static void commandsBeforeAndBehindTheStop() {
        tell("commands before the stop stay done and alone count, those behind it are not carried out");
        String[] commands = {"trail;", "star 5 6 7;", "set 5 9;", "back 77;", "pole 3 4;"};
        for (int at = 0; at <= commands.length; at++) {
            StringBuilder text = new StringBuilder();
            for (int c = 0; c < commands.length; c++) {
                text.append(c == at ? "search 0;" : "").append(commands[c]);
            }
            ArcPlate plate = new ArcPlate();
            due(at, run(plate, text.toString()), text.toString());
            due(at < commands.length ? 2 : 0, plate.stop(), "stop before command " + at);
            due(at > 0 ? 1 : 0, plate.whole(0), "trails");
            due(at > 1 ? 1 : 0, plate.whole(1), "stars");
            due(at > 2 ? 9 : 50, plate.setting(5), "tolerance");
            due(at > 3 ? -77 : 250, plate.setting(0), "rate");
            due(at > 4 ? 3 : 2000, plate.whole(2), "x of the pole");
            due(text.length(), plate.clearCommands(), "the text stays");
        }
    }

    private static void withAFaultNothingIsDone() {
        tell("if a text has a fault, nothing is done, nothing is saved, and the stop stays");
        String[] stops = {"", "point 9 0 0 0;", "search 0;", "trail;trail;point 0 0 0 0;point 0 0 0 0;"};
        for (int stop = 0; stop < stops.length; stop++) {
            ArcPlate plate = new ArcPlate();
            run(plate, stops[stop]);
            due(stop, plate.stop(), "stop of \"" + stops[stop] + "\"");
            int trails = plate.whole(0);
            due(fault(20), run(plate, "trail;trail;set 3 7;;"), "a fault behind good commands");
            due(stop, plate.stop(), "stop after a fault");
            due(trails, plate.whole(0), "trails after a fault");
            due(5, plate.setting(3), "setting after a fault");
            due(fault(5), run(plate, "trail"), "a text that ends too soon");
            due(stop, plate.stop(), "stop after a text that ends too soon");
            due(0, plate.undo(), "the only saved state");
            due(stop, plate.stop(), "stop after undo");
            due(0, run(plate, ""), "an empty text");
            due(0, plate.stop(), "stop of an empty text");
        }
    }

    private static void textsGrowAndStay() {
        tell("promise 26: the text stays as it is");
        ArcPlate plate = new ArcPlate();
        write(plate, "trai");
        due(fault(0), plate.runCommands(), "half a word");
        plate.type('l');
        due(fault(5), plate.runCommands(), "a word");
        plate.type(';');
        due(1, plate.runCommands(), "a command");
        due(1, plate.runCommands(), "the same command");
        due(2, plate.whole(0), "trails by both");
        plate.undo();
        plate.type(' ');
        due(1, plate.runCommands(), "the command after undo, with a space");
        plate.type('x');
        due(fault(7), plate.runCommands(), "a letter behind it");
        due(8, plate.clearCommands(), "length of all");
        due(0, plate.runCommands(), "nothing is left");
        due(1, plate.type('t'), "length from the beginning");
        due(fault(0), plate.runCommands(), "the old text is gone");
    }

    private static void wordsDoWhatTheirCallsDo() {
        tell("each word does what its call does");
        ArcPlate written = new ArcPlate();
        due(8, run(written, "trail;point 0 5 2300 2400;point 0 3 2301 2400;star 500 53130 8;pole 2001 2002;set 1 7;"
            + "back 9;search 64;"), "all words");
        ArcPlate called = new ArcPlate();
        called.addTrail();
        called.addPoint(0, 5, 2300, 2400);
        called.addPoint(0, 3, 2301, 2400);
        called.addStar(500, 53130, 8);
        called.setPole(2001, 2002);
        called.set(1, 7);
        called.set(0, -9);
        called.search(64);
        for (int what = 0; what <= 10; what++) {
            due(called.whole(what), written.whole(what), "value " + what + " of the whole");
        }
        for (int what = 0; what <= 9; what++) {
            due(called.setting(what), written.setting(what), "setting " + what);
        }
        dueFrames(written, 0, 3, 5);
        dueStar(written, 0, 500, 53130, 8);
    }

    private static void reading() {
        bytesWhereACommandBegins();
        bytesOfAWord();
        bytesBehindAWord();
        bytesOfNumbers();
        eachWord();
        numbersOfEachWord();
        faultsAtEachIndex();
        textsWithoutCommands();
        atMost150Bytes();
        numbersByTheirDigits();
    }

    private static void running() {
        numbersOutOfRange();
        numbersAtTheirEnds();
        backIsTheNegativeRate();
        stopsOfEachKind();
        commandsBeforeAndBehindTheStop();
        withAFaultNothingIsDone();
        textsGrowAndStay();
        wordsDoWhatTheirCallsDo();
    }

    public static void main(String[] args) {
        reading();
        running();
        end();
    }
}
