import java.util.ArrayList;
import java.util.List;

/** The edges that the document names for the text and its patches: each sentence has a test of its own. */
public final class TextEdgeTest {
    private static final int INVALID = -1;
    private static final int CAPACITY = -3;
    /** Every part that an item may have, with numbers of one digit and of several. */
    private static final String WHOLE = "c10i1000f99g0213ms;c0s;x3:11=100,0=0,7=23;x0:;";
    private static final Checks checks = new Checks();

    private TextEdgeTest() {
    }

    public static void main(String[] arguments) {
        lengths();
        everyCharacter();
        noItems();
        manyItems();
        oneOrSeveral();
        eachAtMostOnce();
        onlySet();
        groupSets();
        wrongGroups();
        sendsPossiblyNone();
        toldTwice();
        numbersInTheirRanges();
        zeroAhead();
        wrongNumberWhateverFollows();
        longNumbers();
        spacesEverywhere();
        notWithinNumbers();
        otherBlanks();
        theTextEnds();
        everySignAtEveryPlace();
        everySignPutIn();
        firstErrorOfTwo();
        leastAndGreatestPosition();
        inTheirOrder();
        oneActionAlsoWithoutItems();
        nothingOfAWrongPatch();
        textIsKept();
        checks.finish();
    }

    private static void part(String sentence) {
        checks.part(sentence);
    }

    private static void due(String call, int got, int want) {
        checks.due(call, got, want);
    }

    private static FeedDesk typed(String text) {
        return Desks.type(new FeedDesk(), text);
    }

    private static void items(String text, int items) {
        FeedDesk desk = typed(text);
        due("load of '" + text + "'", desk.load(), items);
        due("the text becomes empty", desk.count(10), 0);
        due("one action", desk.count(9), 1);
    }

    private static void error(String text, int position) {
        FeedDesk desk = typed(text);
        due("load of '" + text + "'", desk.load(), -1000 - position);
        due("the text is kept", desk.count(10), text.length());
        due("no action", desk.count(9), 0);
    }

    private static String spaces(int count) {
        return " ".repeat(count);
    }

    // ---- the text

    private static void lengths() {
        part("a text of at most 140 characters");
        FeedDesk desk = new FeedDesk();
        for (int length = 1; length <= 140; length++) {
            due("the new length", desk.append('?'), length);
            due("the length", desk.count(10), length);
        }
        due("one more", desk.append('?'), CAPACITY);
        due("the previous length", desk.clearText(), 140);
        due("the previous length", desk.clearText(), 0);
        due("the length", desk.count(10), 0);
        due("the new length", desk.append('?'), 1);
        due("the previous length", desk.clearText(), 1);
        items(spaces(136) + "c0m;", 1);
        items("c0m;" + spaces(136), 1);
        FeedDesk last = typed("c0" + spaces(131) + "i1000m;");
        due("the last character is read", last.load(), 1);
        due("input", last.channel(0, 0), 1000);
    }

    private static void everyCharacter() {
        part("character code, 1 to 255");
        for (int character = 1; character <= 255; character++) {
            FeedDesk desk = new FeedDesk();
            due("append of " + character, desk.append(character), 1);
            int want = character == ' ' ? 0 : character == 'c' || character == 'x' ? -1001 : -1000;
            due("load of " + character, desk.load(), want);
        }
        FeedDesk desk = new FeedDesk();
        for (int character : new int[] {0, -1, 256, 'c' + 256, 'c' + (1 << 16), Integer.MIN_VALUE, Integer.MAX_VALUE}) {
            due("append of " + character, desk.append(character), INVALID);
            due("the length", desk.count(10), 0);
        }
    }

    // ---- items

    private static void noItems() {
        part("a sequence of items (possibly none)");
        items("", 0);
        items(" ", 0);
        items(spaces(140), 0);
        error(";", 0);
        error(" ;", 1);
        error("c0m;;", 4);
    }

    private static void manyItems() {
        part("Returns the number of items");
        StringBuilder text = new StringBuilder();
        for (int count = 1; count <= 35; count++) {
            text.append(count % 2 == 0 ? "c0m;" : "x3:;");
            items(text.toString(), count);
        }
    }

    private static void oneOrSeveral() {
        part("and then one or several of");
        error("c0;", 2);
        error("c11 ;", 4);
        for (String one : new String[] {"i0", "f0", "g0", "m", "s"}) items("c0" + one + ";", 1);
        items("c0i0f0g0ms;", 1);
        items("c0smg0f0i0;", 1);
        items("c0mi1sf1g3;", 1);
        error("c0i0f0g0msm;", 10);
        error("c0i0f0g0msc", 10);
    }

    private static void eachAtMostOnce() {
        part("each at most once");
        String[] parts = {"i7", "f7", "g2", "m", "s"};
        for (int twice = 0; twice < parts.length; twice++) {
            error("c0" + parts[twice] + parts[twice] + ";", 2 + parts[twice].length());
            for (int between = 0; between < parts.length; between++) {
                if (between == twice) continue;
                String ahead = "c0" + parts[twice] + parts[between];
                error(ahead + parts[twice] + ";", ahead.length());
                error(ahead + " " + parts[twice] + ";", ahead.length() + 1);
            }
            items("c0" + parts[twice] + ";c0" + parts[twice] + ";", 2);
        }
    }

    private static void onlySet() {
        part("\"m\" and \"s\" can only set, not take away");
        FeedDesk desk = typed("c4ms;");
        desk.load();
        due("muted", desk.channel(4, 2), 1);
        due("safe", desk.channel(4, 3), 1);
        Desks.type(desk, "c4ms;c4f5;c4m;").load();
        due("still muted", desk.channel(4, 2), 1);
        due("still safe", desk.channel(4, 3), 1);
        error("c4m0;", 3);
        error("c4s0;", 3);
    }

    private static void groupSets() {
        part("GROUPS is a row of one to four different digits 0 to 3, the set then");
        List<String> rows = new ArrayList<>(List.of(""));
        for (int index = 0; index < rows.size(); index++) {
            for (char digit = '0'; digit <= '3'; digit++) {
                if (rows.get(index).indexOf(digit) < 0) rows.add(rows.get(index) + digit);
            }
        }
        due("rows", rows.size(), 1 + 4 + 12 + 24 + 24);
        for (String row : rows.subList(1, rows.size())) {
            FeedDesk desk = new FeedDesk();
            desk.setChannel(2, 4, 15);
            due("load", Desks.type(desk, "c2g" + row + ";").load(), 1);
            int set = 0;
            for (char digit : row.toCharArray()) set |= 1 << digit - '0';
            due("the set of " + row, desk.channel(2, 4), set);
            int behind = 3 + row.length();
            for (char digit = '0'; digit <= '9'; digit++) {
                if (digit > '3' || row.indexOf(digit) >= 0) error("c2g" + row + digit + ";", behind);
                error("c2g" + row + " " + digit + ";", behind + 1);
            }
            error("c2g" + row, behind);
        }
    }

    private static void wrongGroups() {
        part("one to four digits 0 to 3");
        error("c2g;", 3);
        error("c2g ;", 4);
        error("c2gm;", 3);
        error("c2g4;", 3);
        error("c2g/;", 3);
        error("c2g9;", 3);
        error("c2g01234;", 7);
        error("c2g01230;", 7);
        error("c2g00;", 4);
        error("c2g3333;", 4);
        error("c2g", 3);
    }

    private static void sendsPossiblyNone() {
        part("sends, possibly none, with \",\" between two of them");
        for (int feed = 0; feed < 4; feed++) items("x" + feed + ":;", 1);
        items("x0: ;", 1);
        items("x0:0=0;", 1);
        items("x0:0=0,1=1,2=2,3=3,4=4,5=5,6=6,7=7,8=8,9=9,10=10,11=11;", 1);
        error("x0:,;", 3);
        error("x0:0=0,;", 7);
        error("x0:,0=0;", 3);
        error("x0:0=0,,1=1;", 7);
        error("x0:0=0 1=1;", 7);
        error("x0:0=0:1=1;", 6);
        error("x0;", 2);
        error("x0", 2);
        error("x:;", 1);
        FeedDesk desk = typed("x2:0=100,11=1;x2:;x3:;");
        due("items", desk.load(), 3);
        due("no sends, so nothing is told", desk.send(2, 0, 0), 100);
        due("no sends, so nothing is told", desk.send(2, 11, 0), 1);
    }

    private static void toldTwice() {
        part("of a channel that is told twice the later one counts");
        FeedDesk desk = typed("x1:5=100,5=0;x2:5=0,6=3,5=100,5=99;x3:5=1;x3:5=2;");
        due("items", desk.load(), 4);
        due("send", desk.send(1, 5, 0), 0);
        due("send", desk.send(2, 5, 0), 99);
        due("send", desk.send(2, 6, 0), 3);
        due("send", desk.send(3, 5, 0), 2);
        due("one action, so undone at once", desk.undo(), 0);
        due("send", desk.send(2, 5, 0), 0);
    }

    // ---- numbers

    private static final String[] AHEAD = {"c", "c0i", "c0f", "x", "x0:", "x0:0=", "x0:0=1,", "x0:0=1,1="};
    private static final String[] BEHIND = {"m;", ";", ";", ":;", "=1;", ";", "=1;", ";"};
    private static final int[] MOST = {11, 1000, 100, 3, 11, 100, 11, 100};

    private static void numbersInTheirRanges() {
        part("All others are numbers in their ranges");
        for (int kind = 0; kind < MOST.length; kind++) {
            for (int value = 0; value <= MOST[kind]; value++) items(AHEAD[kind] + value + BEHIND[kind], 1);
            for (int value : new int[] {MOST[kind] + 1, MOST[kind] + 2, MOST[kind] * 10 + 10, 1001, 9999, 10000, 1 << 30}) {
                error(AHEAD[kind] + value + BEHIND[kind], AHEAD[kind].length());
            }
            error(AHEAD[kind] + "-1" + BEHIND[kind], AHEAD[kind].length());
            error(AHEAD[kind] + "+1" + BEHIND[kind], AHEAD[kind].length());
            error(AHEAD[kind] + BEHIND[kind], AHEAD[kind].length());
            error(AHEAD[kind] + " " + BEHIND[kind], AHEAD[kind].length() + 1);
        }
        int[] most = {1000, 100};
        for (int what = 0; what <= 1; what++) {
            for (int value = 0; value <= most[what]; value += most[what] == 1000 ? 7 : 1) {
                FeedDesk desk = typed("c11" + "if".charAt(what) + value + ";");
                desk.load();
                due("it is set", desk.channel(11, what), value);
            }
        }
    }

    private static void zeroAhead() {
        part("of digits, the first of several not 0");
        for (int kind = 0; kind < MOST.length; kind++) {
            for (String number : new String[] {"00", "01", "000", "001", "09", "010", "0" + MOST[kind], "00000000001"}) {
                error(AHEAD[kind] + number + BEHIND[kind], AHEAD[kind].length());
                error(AHEAD[kind] + spaces(3) + number + BEHIND[kind], AHEAD[kind].length() + 3);
                error(AHEAD[kind] + number, AHEAD[kind].length());
            }
            items(AHEAD[kind] + "0" + BEHIND[kind], 1);
        }
    }

    private static void wrongNumberWhateverFollows() {
        part("for a number that is out of its range or has a 0 ahead, its first digit, whatever follows");
        for (int kind = 0; kind < MOST.length; kind++) {
            for (String number : new String[] {String.valueOf(MOST[kind] + 1), "00", "01", "99999"}) {
                for (String follows : new String[] {"", "?", " ", ";", " 5", "x", "=", ":", ",", "m;", "/", "-", "\t"}) {
                    error(AHEAD[kind] + number + follows, AHEAD[kind].length());
                }
            }
        }
    }

    private static void longNumbers() {
        part("a number is out of its range, however many digits it has");
        String[] numbers = {"4294967296", "4294967297", "2147483648", "8589934593", "18446744073709551616", "18446744073709551617",
            "65536", "65537", "256", "100000", "99999999999999999999999"};
        for (int kind = 0; kind < MOST.length; kind++) {
            if (MOST[kind] == 1000) continue;
            for (String number : numbers) error(AHEAD[kind] + number + BEHIND[kind], AHEAD[kind].length());
        }
        for (String number : numbers) {
            if (!number.equals("256")) error("c0i" + number + ";", 3);
        }
        error("c0i" + "1".repeat(137), 3);
        error("c0i" + "9".repeat(136) + ";", 3);
        error("c" + "1".repeat(139), 1);
        error("x0:0=" + "0".repeat(135), 5);
    }

    // ---- spaces

    private static boolean isDigit(String text, int at) {
        return at >= 0 && at < text.length() && text.charAt(at) >= '0' && text.charAt(at) <= '9';
    }

    private static void spacesEverywhere() {
        part("Spaces (code 32) may stand everywhere except within numbers and GROUPS");
        String want = Looks.state(loadedWhole(WHOLE));
        StringBuilder all = new StringBuilder(" ");
        for (int at = 0; at < WHOLE.length(); at++) {
            if (at == 0 || !isDigit(WHOLE, at - 1) || !isDigit(WHOLE, at)) {
                String spaced = WHOLE.substring(0, at) + " " + WHOLE.substring(at);
                checks.same("a space at " + at, Looks.state(loadedWhole(spaced)), want);
                checks.same("spaces at " + at, Looks.state(loadedWhole(WHOLE.substring(0, at) + spaces(90) + WHOLE.substring(at))),
                    want);
                all.append(' ');
            }
            all.append(WHOLE.charAt(at));
        }
        checks.same("spaces everywhere", Looks.state(loadedWhole(all + "  ")), want);
    }

    private static FeedDesk loadedWhole(String text) {
        FeedDesk desk = typed(text);
        due("load of '" + text + "'", desk.load(), 4);
        return desk;
    }

    private static void notWithinNumbers() {
        part("except within numbers and GROUPS");
        for (int at = 1; at < WHOLE.length(); at++) {
            if (!isDigit(WHOLE, at - 1) || !isDigit(WHOLE, at)) continue;
            error(WHOLE.substring(0, at) + " " + WHOLE.substring(at), at + 1);
            error(WHOLE.substring(0, at) + spaces(9) + WHOLE.substring(at), at + 9);
        }
    }

    private static void otherBlanks() {
        part("Spaces (code 32)");
        for (int blank : new int[] {1, 9, 10, 13, 31, 33, 95, 128, 160, 255}) {
            for (String ahead : new String[] {"", "c", "c0", "c0m", "c0i1", "x", "x0", "x0:", "x0:1=1", "c0m;"}) {
                error(ahead + (char) blank + "m;", ahead.length());
            }
        }
    }

    // ---- the error position

    private static void theTextEnds() {
        part("If the text ends where something is missing, it is the length of the text");
        int items = 0;
        for (int end = 0; end <= WHOLE.length(); end++) {
            String start = WHOLE.substring(0, end);
            if (end == 0 || start.endsWith(";")) {
                items(start, items);
                items(start + "   ", items);
                items++;
                continue;
            }
            error(start, end);
            error(start + " ", end + 1);
            error(start + spaces(140 - end), 140);
        }
    }

    /** PlainDesk reads character by character, by what may stand next. */
    private static void asPlain(String text) {
        PlainDesk plain = new PlainDesk();
        for (char character : text.toCharArray()) plain.append(character);
        due("load of '" + text + "'", typed(text).load(), plain.load());
    }

    private static void everySignAtEveryPlace() {
        part("the first character that is not allowed where it stands");
        for (int at = 0; at < WHOLE.length(); at++) {
            for (int sign = 1; sign <= 255; sign++) asPlain(WHOLE.substring(0, at) + (char) sign + WHOLE.substring(at + 1));
            asPlain(WHOLE.substring(0, at) + WHOLE.substring(at + 1));
        }
        error("C0m;", 0);
        error("0m;", 0);
        error("cc0m;", 1);
        error("c0 0m;", 3);
        error("c0M;", 2);
        error("c0x0:;", 2);
        error("x0m;", 2);
        error("x0:m;", 3);
        error("x0:0m;", 4);
        error("x0:0=m;", 5);
        error("x0:0=0m;", 6);
        error("c0i1,f1;", 4);
    }

    private static void everySignPutIn() {
        part("the first character that is not allowed, put in");
        for (int at = 0; at <= WHOLE.length(); at++) {
            for (int sign = 1; sign <= 255; sign++) asPlain(WHOLE.substring(0, at) + (char) sign + WHOLE.substring(at));
        }
    }

    private static void firstErrorOfTwo() {
        part("The text is read from left to right");
        error("c0;c12m;", 2);
        error("c0m;c12m;c0;", 5);
        error("x0:12=101;", 3);
        error("x0:11=101,12=0;", 6);
        error("c0i1001f101;", 3);
        error("c0f100i1001f0;", 7);
        error("c0i1i1001;", 4);
    }

    private static void leastAndGreatestPosition() {
        part("-1000 minus the error position");
        error("?", 0);
        error("?" + spaces(139), 0);
        error(spaces(139) + "?", 139);
        error(spaces(139) + "c", 140);
        error(spaces(138) + "c0", 140);
        error(spaces(136) + "c12m", 137);
        error("c" + spaces(139), 140);
        error(spaces(135) + "c0mm;", 138);
    }

    // ---- what is carried out

    private static void inTheirOrder() {
        part("the items are carried out in their order");
        FeedDesk desk = typed("c0i1000f0g0;c0i0f100g3;c0i5;");
        due("items", desk.load(), 3);
        due("input", desk.channel(0, 0), 5);
        due("fader", desk.channel(0, 1), 100);
        due("groups", desk.channel(0, 4), 8);
        due("not muted", desk.channel(0, 2), 0);
        due("not safe", desk.channel(0, 3), 0);
    }

    private static void oneActionAlsoWithoutItems() {
        part("This is one action, also without items");
        FeedDesk desk = new FeedDesk();
        for (int load = 1; load <= 6; load++) {
            due("no items", desk.load(), 0);
            due("states", desk.count(9), Math.min(load, 5));
        }
        FeedDesk many = typed("c0f1;c0f2;c0f3;c0f4;c0f5;c0f6;x0:0=1,0=2,0=3;");
        due("items", many.load(), 7);
        due("one state", many.count(9), 1);
        due("undone", many.undo(), 0);
        due("fader", many.channel(0, 1), 0);
        due("send", many.send(0, 0, 0), 0);
    }

    private static void nothingOfAWrongPatch() {
        part("then nothing changes");
        String[] ends = {"c", "?", ";", "c0;", "x0:0=101;", "c0mm;", "c0g00;", "x0:0=1,"};
        for (String end : ends) {
            FeedDesk desk = typed("c0i9f9g12ms;c11i9f9g0ms;x0:0=9;x3:11=9;" + end);
            String want = Looks.at(typed("c0i9f9g12ms;c11i9f9g0ms;x0:0=9;x3:11=9;" + end));
            checks.holds("load ends with an error: " + end, desk.load() <= -1000);
            checks.same("what is seen", Looks.at(desk), want);
        }
        FeedDesk fade = new FeedDesk();
        fade.store(0);
        fade.recall(0, 5);
        due("an error behind a fader", Desks.type(fade, "c0f9;c1").load(), -1007);
        due("not touched by a wrong patch", fade.channel(0, 7), 0);
        due("the fade goes on", fade.count(5), 5);
    }

    private static void textIsKept() {
        part("and the text is kept");
        FeedDesk desk = typed("c0i9");
        due("it ends too early", desk.load(), -1004);
        due("and again", desk.load(), -1004);
        due("it is gone on with", desk.append(';'), 5);
        due("and then it is right", desk.load(), 1);
        due("input", desk.channel(0, 0), 9);
        FeedDesk again = typed("c0i9;?");
        due("an error", again.load(), -1005);
        due("a text cannot be mended but by clearing it", again.append(';'), 7);
        due("an error", again.load(), -1005);
        due("cleared", again.clearText(), 7);
        due("nothing is left of it", again.load(), 0);
        due("input", again.channel(0, 0), 0);
    }
}
