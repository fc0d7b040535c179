import java.util.ArrayList;
import java.util.List;
import java.util.function.Consumer;
import java.util.function.ToIntFunction;

/**
 * Every argument of every call: each value from the least to the greatest is taken, those just outside and those far
 * away are refused; and every refused call, with the error that comes first, changes nothing.
 */
public final class RangeTest {
    private static final int INVALID = -1;
    private static final int ILLEGAL = -2;
    private static final int CAPACITY = -3;
    private static final int NONE = -99;
    private static final int[] FAR = {Integer.MIN_VALUE, Integer.MIN_VALUE + 1, -1 << 16, -1001, -256, -100, -99, -32, -16,
        -12, -4, -3, -2, 32, 64, 140, 256, 1 << 10, 1 << 16, 1 << 30, Integer.MAX_VALUE - 1, Integer.MAX_VALUE};
    /** Added to a value of the range: what is cut off from these leaves the value. */
    private static final int[] TURNS = {1 << 8, 1 << 16, 1 << 24, 1 << 31};
    private static final Checks checks = new Checks();

    /** What a call that is taken does. */
    private enum Kind { ACTION, TEXT, LOOK }

    /** A call with one argument left open. */
    private interface Call {
        int on(FeedDesk desk, int value);
    }

    private RangeTest() {
    }

    public static void main(String[] arguments) {
        channelsAndGroups();
        feeds();
        scenesAndTicks();
        text();
        looking();
        reasonsAndPaths();
        pathIndex();
        takenReturn();
        emptyScene();
        ticksInAll();
        emptyHistory();
        fullText();
        wrongText();
        nothingToCut();
        firstErrorFirst();
        noneIsNoError();
        historyIsKept();
        checks.finish();
    }

    // ---- what is taken and what is refused

    /** No call is refused for the state of this desk: all scenes are kept, and only the feed 0 has a return. */
    private static void ready(FeedDesk desk) {
        Desks.type(desk, "c0i800f90g01;c1i600f80s;c2f70m;c3f100;x0:0=100,1=90,2=80;x1:0=50,3=100;").load();
        for (int scene = 0; scene < 6; scene++) desk.store(scene);
        desk.setReturn(0, 5);
        desk.setChannel(0, 1, 10);
        desk.setGroup(1, 0, 60);
        desk.recall(2, 9);
        desk.run(3);
        Desks.settleHistory(desk);
        Desks.type(desk, "c9i9");
    }

    private static void range(String what, Kind kind, int least, int most, Call call) {
        range(what, kind, least, most, RangeTest::ready, call);
    }

    private static void range(String what, Kind kind, int least, int most, Consumer<FeedDesk> setUp, Call call) {
        checks.part(what + " " + least + " to " + most);
        for (int value = least; value <= most; value++) taken(value, kind, setUp, call);
        for (int value : outside(least, most)) refused(String.valueOf(value), INVALID, setUp, desk -> call.on(desk, value));
    }

    private static List<Integer> outside(int least, int most) {
        List<Integer> values = new ArrayList<>(List.of(least - 1, most + 1));
        for (int value : FAR) {
            if (value < least || value > most) values.add(value);
        }
        for (int turn : TURNS) {
            if (least + turn > most || least + turn < least) values.add(least + turn);
            if (most + turn > most || most + turn < least) values.add(most + turn);
        }
        return values;
    }

    private static void taken(int value, Kind kind, Consumer<FeedDesk> setUp, Call call) {
        FeedDesk desk = Desks.after(setUp);
        int history = desk.count(9);
        int answer = call.on(desk, value);
        checks.holds(value + " is taken, it answered " + answer, answer != INVALID);
        checks.due("states in the history behind " + value, desk.count(9), kind == Kind.ACTION ? history + 1 : history);
        if (kind == Kind.ACTION) desk.undo();
        String want = kind == Kind.TEXT ? Looks.state(Desks.after(setUp)) : Looks.at(Desks.after(setUp));
        checks.same("what is seen behind " + value, kind == Kind.TEXT ? Looks.state(desk) : Looks.at(desk), want);
    }

    private static void refused(String what, int error, Consumer<FeedDesk> setUp, ToIntFunction<FeedDesk> call) {
        FeedDesk desk = Desks.after(setUp);
        checks.due(what, call.applyAsInt(desk), error);
        checks.same("what is seen behind " + what, Looks.at(desk), Looks.at(Desks.after(setUp)));
        FeedDesk another = Desks.after(setUp);
        call.applyAsInt(another);
        checks.same("what is hidden behind " + what, hidden(another), hidden(Desks.after(setUp)));
    }

    /** The states in the history and the text, which no look tells. */
    private static String hidden(FeedDesk desk) {
        StringBuilder seen = new StringBuilder();
        for (int left = desk.count(9); left > 0; left--) {
            seen.append(" undo ").append(desk.undo());
            brief(desk, seen);
        }
        seen.append(" length ").append(desk.append(';')).append(" load ").append(desk.load());
        brief(desk, seen);
        return seen.toString();
    }

    private static void brief(FeedDesk desk, StringBuilder seen) {
        for (int what = 0; what <= 9; what++) seen.append(' ').append(desk.count(what));
        for (int channel = 0; channel < 12; channel++) {
            for (int what = 0; what <= 1; what++) seen.append(' ').append(desk.channel(channel, what));
        }
    }

    // ---- the arguments of each call

    private static void channelsAndGroups() {
        int[] channelMost = {1000, 100, 1, 1, 15};
        int[] groupMost = {100, 1};
        for (int index = 0; index < channelMost.length; index++) {
            int what = index;
            range("setChannel(c, " + what + ", 0)", Kind.ACTION, 0, 11, (desk, value) -> desk.setChannel(value, what, 0));
            for (int end = 0; end < 12; end += 11) {
                int channel = end;
                range("setChannel(" + channel + ", " + what + ", v)", Kind.ACTION, 0, channelMost[what],
                    (desk, value) -> desk.setChannel(channel, what, value));
            }
        }
        range("setChannel(11, w, 1)", Kind.ACTION, 0, 4, (desk, value) -> desk.setChannel(11, value, 1));
        for (int index = 0; index < groupMost.length; index++) {
            int what = index;
            range("setGroup(g, " + what + ", 1)", Kind.ACTION, 0, 3, (desk, value) -> desk.setGroup(value, what, 1));
            for (int end = 0; end < 4; end += 3) {
                int group = end;
                range("setGroup(" + group + ", " + what + ", v)", Kind.ACTION, 0, groupMost[what],
                    (desk, value) -> desk.setGroup(group, what, value));
            }
        }
        range("setGroup(3, w, 0)", Kind.ACTION, 0, 1, (desk, value) -> desk.setGroup(3, value, 0));
    }

    private static void feeds() {
        range("setSend(f, 11, 100)", Kind.ACTION, 0, 3, (desk, value) -> desk.setSend(value, 11, 100));
        range("setSend(3, c, 0)", Kind.ACTION, 0, 11, (desk, value) -> desk.setSend(3, value, 0));
        range("setSend(0, 0, v)", Kind.ACTION, 0, 100, (desk, value) -> desk.setSend(0, 0, value));
        range("setSend(3, 11, v)", Kind.ACTION, 0, 100, (desk, value) -> desk.setSend(3, 11, value));
        range("setOwner(f, 11, 1)", Kind.ACTION, 0, 3, (desk, value) -> desk.setOwner(value, 11, 1));
        range("setOwner(3, c, 0)", Kind.ACTION, 0, 11, (desk, value) -> desk.setOwner(3, value, 0));
        range("setOwner(3, 11, v)", Kind.ACTION, 0, 1, (desk, value) -> desk.setOwner(3, 11, value));
        range("setReturn(0, c)", Kind.ACTION, -1, 11, (desk, value) -> desk.setReturn(0, value));
        range("setReturn(f, -1)", Kind.ACTION, 0, 3, RangeTest::allReturn, (desk, value) -> desk.setReturn(value, -1));
        range("setReturn(f, 8 + f)", Kind.ACTION, 0, 3, RangeTest::allReturn,
            (desk, value) -> desk.setReturn(value, value < 0 || value > 3 ? 8 : 8 + value));
    }

    /** No previous return is -1 here, which would look like an error. */
    private static void allReturn(FeedDesk desk) {
        for (int feed = 0; feed < 4; feed++) desk.setReturn(feed, 4 + feed);
        Desks.settleHistory(desk);
    }

    private static void scenesAndTicks() {
        range("store(s)", Kind.ACTION, 0, 5, (desk, value) -> desk.store(value));
        range("recall(s, 0)", Kind.ACTION, 0, 5, (desk, value) -> desk.recall(value, 0));
        range("recall(s, 100)", Kind.ACTION, 0, 5, (desk, value) -> desk.recall(value, 100));
        range("recall(0, n)", Kind.ACTION, 0, 100, (desk, value) -> desk.recall(0, value));
        range("recall(5, n)", Kind.ACTION, 0, 100, (desk, value) -> desk.recall(5, value));
        range("run(n)", Kind.ACTION, 1, 100, (desk, value) -> desk.run(value));
    }

    private static void text() {
        range("append(c)", Kind.TEXT, 1, 255, (desk, value) -> desk.append(value));
        range("append(c) to the empty text", Kind.TEXT, 1, 255, desk -> { }, (desk, value) -> desk.append(value));
    }

    private static void looking() {
        range("count(w)", Kind.LOOK, 0, 10, (desk, value) -> desk.count(value));
        for (int index = 0; index <= 8; index++) {
            int what = index;
            range("channel(c, " + what + ")", Kind.LOOK, 0, 11, (desk, value) -> desk.channel(value, what));
        }
        range("channel(11, w)", Kind.LOOK, 0, 8, (desk, value) -> desk.channel(11, value));
        for (int index = 0; index <= 3; index++) {
            int what = index;
            range("group(g, " + what + ")", Kind.LOOK, 0, 3, (desk, value) -> desk.group(value, what));
            range("feed(f, " + what + ")", Kind.LOOK, 0, 3, (desk, value) -> desk.feed(value, what));
        }
        range("group(3, w)", Kind.LOOK, 0, 3, (desk, value) -> desk.group(3, value));
        range("feed(3, w)", Kind.LOOK, 0, 3, (desk, value) -> desk.feed(3, value));
        for (int index = 0; index <= 1; index++) {
            int what = index;
            range("send(f, 11, " + what + ")", Kind.LOOK, 0, 3, (desk, value) -> desk.send(value, 11, what));
            range("send(3, c, " + what + ")", Kind.LOOK, 0, 11, (desk, value) -> desk.send(3, value, what));
        }
        range("send(3, 11, w)", Kind.LOOK, 0, 1, (desk, value) -> desk.send(3, 11, value));
        range("scene(s, 16)", Kind.LOOK, 0, 5, (desk, value) -> desk.scene(value, 16));
        range("scene(5, i)", Kind.LOOK, 0, 16, (desk, value) -> desk.scene(5, value));
        range("scene(0, i) that is empty", Kind.LOOK, 0, 16, desk -> { }, (desk, value) -> desk.scene(0, value));
    }

    private static void reasonsAndPaths() {
        range("why(c)", Kind.LOOK, 0, 11, (desk, value) -> desk.why(value));
        range("path(c, 3, -1)", Kind.LOOK, 0, 11, (desk, value) -> desk.path(value, 3, -1));
        range("path(11, f, 0)", Kind.LOOK, 0, 3, (desk, value) -> desk.path(11, value, 0));
        range("loudest(c, 3)", Kind.LOOK, 0, 11, (desk, value) -> desk.loudest(value, 3));
        range("loudest(11, f)", Kind.LOOK, 0, 3, (desk, value) -> desk.loudest(11, value));
        range("hearers(f)", Kind.LOOK, 0, 3, (desk, value) -> desk.hearers(value));
        range("outputIn(f, 100)", Kind.LOOK, 0, 3, (desk, value) -> desk.outputIn(value, 100));
        range("outputIn(f, 0)", Kind.LOOK, 0, 3, (desk, value) -> desk.outputIn(value, 0));
        range("outputIn(3, n)", Kind.LOOK, 0, 100, (desk, value) -> desk.outputIn(3, value));
        range("cut(f)", Kind.LOOK, 0, 3, (desk, value) -> desk.cut(value));
    }

    private static void pathIndex() {
        checks.part("path(0, 0, i) -1 and more");
        for (int value : new int[] {-1, 0, 1, 2, 3, 4, 12, 1 << 16, Integer.MAX_VALUE - 1, Integer.MAX_VALUE}) {
            taken(value, Kind.LOOK, RangeTest::ready, (desk, index) -> desk.path(0, 0, index));
        }
        for (int value : new int[] {-2, -3, -99, -100, Integer.MIN_VALUE, Integer.MIN_VALUE + 1}) {
            refused("index " + value, INVALID, RangeTest::ready, desk -> desk.path(0, 0, value));
            refused("index " + value + ", without a path", INVALID, RangeTest::ready, desk -> desk.path(11, 3, value));
        }
    }

    // ---- what is refused for the state

    private static void takenReturn() {
        checks.part("6 setReturn: ILLEGAL_STATE if another feed comes back into this channel");
        for (int holder = 0; holder < 4; holder++) {
            for (int asking = 0; asking < 4; asking++) {
                for (int place = 0; place < 12; place++) {
                    int feed = asking;
                    int held = holder;
                    int channel = place;
                    if (feed == held) oneReturnAgain(feed, channel);
                    else refused("feed " + feed + " into " + channel, ILLEGAL, desk -> desk.setReturn(held, channel),
                        desk -> desk.setReturn(feed, channel));
                }
            }
        }
    }

    /** It is no other feed that comes back into this channel. */
    private static void oneReturnAgain(int feed, int channel) {
        FeedDesk desk = new FeedDesk();
        checks.due("first", desk.setReturn(feed, channel), -1);
        checks.due("again", desk.setReturn(feed, channel), channel);
        checks.due("is an action", desk.count(9), 2);
        checks.due("stays", desk.channel(channel, 8), feed);
    }

    private static void emptyScene() {
        checks.part("8 recall: ILLEGAL_STATE if the scene is empty");
        for (int index = 0; index < 6; index++) {
            int scene = index;
            Consumer<FeedDesk> others = desk -> {
                for (int other = 0; other < 6; other++) {
                    if (other != scene) desk.store(other);
                }
                Desks.settleHistory(desk);
            };
            for (int ticks : new int[] {0, 1, 50, 100}) {
                refused("scene " + scene + " over " + ticks, ILLEGAL, others, desk -> desk.recall(scene, ticks));
                refused("scene " + scene + " of a new desk", ILLEGAL, desk -> { }, desk -> desk.recall(scene, ticks));
            }
        }
    }

    /** A desk that has already made some ticks, and on which a fade is going on. */
    private static void ticked(FeedDesk desk, int ticks) {
        Desks.type(desk, "c0i900f90;x0:0=100;").load();
        desk.store(1);
        desk.setChannel(0, 1, 0);
        for (int left = ticks; left > 0; left -= 100) desk.run(Math.min(left, 100));
        desk.recall(1, 100);
        Desks.settleHistory(desk);
    }

    private static void ticksInAll() {
        checks.part("9 run: CAPACITY_EXCEEDED if there would be more than 10000 ticks in all");
        for (int made : new int[] {9901, 9950, 9999, 10000}) {
            Consumer<FeedDesk> setUp = desk -> ticked(desk, made);
            checks.due("ticks so far", Desks.after(setUp).count(0), made);
            int room = 10000 - made;
            for (int ticks = room + 1; ticks <= 100; ticks += ticks == room + 1 || ticks == 99 ? 1 : 7) {
                int wanted = ticks;
                refused(wanted + " behind " + made, CAPACITY, setUp, desk -> desk.run(wanted));
            }
            if (room == 0) continue;
            FeedDesk desk = Desks.after(setUp);
            checks.holds("the room that is left", desk.run(room) >= 0);
            checks.due("10000 ticks", desk.count(0), 10000);
            checks.due("it was an action", desk.count(9), 2);
        }
        FeedDesk desk = new FeedDesk();
        for (int block = 1; block <= 100; block++) checks.due("a block of 100", desk.run(100), 0);
        checks.due("10000 ticks", desk.count(0), 10000);
        checks.due("one more", desk.run(1), CAPACITY);
        checks.due("undone", desk.undo(), 4);
        checks.due("ticks", desk.count(0), 9900);
        checks.due("there is room again", desk.run(100), 0);
    }

    private static void emptyHistory() {
        checks.part("11 undo: ILLEGAL_STATE if it is empty");
        refused("a new desk", ILLEGAL, desk -> { }, desk -> desk.undo());
        refused("a new desk with a text", ILLEGAL, desk -> Desks.type(desk, "c0f5"), desk -> desk.undo());
        refused("all is undone", ILLEGAL, desk -> {
            Desks.busy(desk);
            for (int left = 5; left > 0; left--) desk.undo();
        }, desk -> desk.undo());
    }

    private static void fullText() {
        checks.part("12 append: CAPACITY_EXCEEDED if the text already has 140 characters");
        Consumer<FeedDesk> setUp = desk -> {
            for (int length = 1; length <= 139; length++) checks.due("length", desk.append(length % 9 == 0 ? 'c' : ' '), length);
            checks.due("the last one", desk.append('?'), 140);
        };
        for (int character : new int[] {1, ' ', ';', 'c', 128, 255}) {
            refused("character " + character, CAPACITY, setUp, desk -> desk.append(character));
        }
        FeedDesk desk = Desks.after(setUp);
        checks.due("cleared", desk.clearText(), 140);
        checks.due("there is room again", desk.append('c'), 1);
        FeedDesk other = new FeedDesk();
        for (int length = 1; length <= 140; length++) other.append(' ');
        checks.due("no room", other.append(' '), CAPACITY);
        checks.due("loaded", other.load(), 0);
        checks.due("there is room again", other.append('c'), 1);
    }

    private static void wrongText() {
        checks.part("14 load: -1000 minus the error position (then nothing changes, and the text is kept)");
        String[] texts = {"c", "c0f1;c0f2;c", "c0i9f9mg0s;x3:0=9;c0", "x0:0=5;x0:1=6,2", "x1:0=9,1=101;", "c5f100;c12f5;", ";"};
        int[] positions = {1, 11, 20, 15, 9, 8, 0};
        for (int index = 0; index < texts.length; index++) {
            String text = texts[index];
            refused("load of " + text, -1000 - positions[index], desk -> {
                Desks.busy(desk);
                desk.clearText();
                Desks.type(desk, text);
            }, desk -> desk.load());
        }
    }

    private static void nothingToCut() {
        checks.part("27 cut: ILLEGAL_STATE if no owner of it hears itself");
        for (int index = 0; index < 4; index++) {
            int feed = index;
            refused("a new desk", ILLEGAL, desk -> { }, desk -> desk.cut(feed));
            refused("without owners", ILLEGAL, desk -> {
                Desks.type(desk, "c0f100;x0:0=100;x1:0=100;x2:0=100;x3:0=100;").load();
                desk.setReturn(feed, 0);
            }, desk -> desk.cut(feed));
            refused("an owner without a way", ILLEGAL, desk -> {
                Desks.type(desk, "c0f100;x0:0=100;x1:0=100;x2:0=100;x3:0=100;").load();
                desk.setOwner(feed, 0, 1);
            }, desk -> desk.cut(feed));
        }
    }

    // ---- several errors at once

    private static void firstErrorFirst() {
        checks.part("the method returns the one that its description lists first");
        Consumer<FeedDesk> held = desk -> desk.setReturn(2, 3);
        for (int feed : new int[] {-1, 4}) refused("setReturn, taken", INVALID, held, desk -> desk.setReturn(feed, 3));
        for (int ticks : new int[] {-1, 101}) {
            refused("recall of an empty scene", INVALID, desk -> { }, desk -> desk.recall(0, ticks));
        }
        for (int ticks : new int[] {0, -1, 101, Integer.MIN_VALUE, Integer.MAX_VALUE}) {
            refused("run without room", INVALID, desk -> ticked(desk, 10000), desk -> desk.run(ticks));
        }
        Consumer<FeedDesk> full = desk -> {
            for (int length = 0; length < 140; length++) desk.append(' ');
        };
        for (int character : new int[] {0, -1, 256}) {
            refused("append without room", INVALID, full, desk -> desk.append(character));
        }
        for (int feed : new int[] {-1, 4}) refused("cut without hearers", INVALID, desk -> { }, desk -> desk.cut(feed));
    }

    private static void noneIsNoError() {
        checks.part("NONE is returned only if no error condition applies");
        for (int index : new int[] {-1, 17}) {
            refused("scene that is empty", INVALID, desk -> { }, desk -> desk.scene(0, index));
        }
        for (int wrong : new int[] {-1, 12}) {
            refused("channel without a feed", INVALID, desk -> { }, desk -> desk.channel(wrong, 8));
            refused("path that is none", INVALID, desk -> { }, desk -> desk.path(wrong, 0, 0));
            refused("loudest of none", INVALID, desk -> { }, desk -> desk.loudest(wrong, 0));
        }
        for (int wrong : new int[] {-1, 4}) {
            refused("feed without a return", INVALID, desk -> { }, desk -> desk.feed(wrong, 1));
            refused("path that is none", INVALID, desk -> { }, desk -> desk.path(0, wrong, 0));
            refused("loudest of none", INVALID, desk -> { }, desk -> desk.loudest(0, wrong));
        }
        refused("path that is none, index -2", INVALID, desk -> { }, desk -> desk.path(0, 0, -2));
        refused("cut where no one send would do", ILLEGAL, desk -> { }, desk -> desk.cut(0));
        FeedDesk desk = new FeedDesk();
        checks.due("scene", desk.scene(5, 16), NONE);
        checks.due("channel", desk.channel(11, 8), NONE);
        checks.due("feed", desk.feed(3, 1), NONE);
        checks.due("path", desk.path(11, 3, -1), NONE);
        checks.due("loudest", desk.loudest(11, 3), NONE);
        checks.due("step", desk.count(4), NONE);
        checks.due("ticks of the fade", desk.count(5), NONE);
    }

    /** A history of five states that all differ, and one refused call of each kind. */
    private static void historyIsKept() {
        checks.part("a refused call leaves the states in the history");
        Consumer<FeedDesk> five = desk -> {
            for (int input = 1; input <= 7; input++) desk.setChannel(0, 0, input);
            desk.setReturn(1, 1);
        };
        refused("setChannel", INVALID, five, desk -> desk.setChannel(12, 0, 0));
        refused("setGroup", INVALID, five, desk -> desk.setGroup(0, 0, 101));
        refused("setSend", INVALID, five, desk -> desk.setSend(0, 12, 0));
        refused("setOwner", INVALID, five, desk -> desk.setOwner(0, 0, 2));
        refused("setReturn", INVALID, five, desk -> desk.setReturn(0, -2));
        refused("setReturn", ILLEGAL, five, desk -> desk.setReturn(0, 1));
        refused("store", INVALID, five, desk -> desk.store(6));
        refused("recall", INVALID, five, desk -> desk.recall(6, 0));
        refused("recall", ILLEGAL, five, desk -> desk.recall(0, 0));
        refused("run", INVALID, five, desk -> desk.run(0));
        refused("run", CAPACITY, desk -> {
            ticked(desk, 10000);
            for (int input = 1; input <= 5; input++) desk.setChannel(0, 0, input);
        }, desk -> desk.run(1));
        refused("append", INVALID, five, desk -> desk.append(0));
        refused("load", -1001, five.andThen(desk -> desk.append('c')), desk -> desk.load());
        refused("cut", ILLEGAL, five, desk -> desk.cut(0));
    }
}
