import java.util.ArrayDeque;
import java.util.Deque;

/** Runs of calls, the same ones each time, on a FeedDesk and on a PlainDesk: all their answers must be the same. */
public final class ModelTest {
    private static final int RUNS = 1500;
    private static final int TEXTS = 6000;
    private static final int WAYS = 4000;
    private static final int CALLS = 512;
    private static final int[] ODD = {Integer.MIN_VALUE, -100, -2, -1, 4, 5, 6, 12, 17, 101, 1001, Integer.MAX_VALUE};

    private static final Checks checks = new Checks();

    private long seed;
    private FeedDesk desk = new FeedDesk();
    private PlainDesk plain = new PlainDesk();
    private final Deque<Character> typing = new ArrayDeque<>();

    private ModelTest(long seed) {
        this.seed = seed * 7919 + 12345;
    }

    public static void main(String[] arguments) {
        for (int run = 0; run < RUNS; run++) {
            checks.part("run " + run);
            new ModelTest(run).play(run);
        }
        for (int run = 0; run < TEXTS; run++) {
            checks.part("text " + run);
            new ModelTest(1000000 + run).read();
        }
        for (int run = 0; run < WAYS; run++) {
            checks.part("ways " + run);
            new ModelTest(2000000 + run).goAllWays();
        }
        checks.finish();
    }

    // ---- numbers that look random, but are the same each time

    private int any(int end) {
        seed = seed * 6364136223846793005L + 1442695040888963407L;
        return (int) ((seed >>> 33) % end);
    }

    /** A number below an end, and sometimes one that is odd for it. */
    private int argument(int end) {
        return any(60) == 0 ? ODD[any(ODD.length)] : any(end);
    }

    /** Mostly great, so that something is left at the end of a path. */
    private int fader() {
        int kind = any(10);
        return kind == 0 ? 0 : kind < 4 ? argument(101) : 100 - any(20);
    }

    private void due(String call, int got, int want) {
        checks.due(call, got, want);
    }

    // ---- runs

    private void play(int run) {
        int calls = 0;
        if (run % 3 == 0) calls = turnUp();
        while (calls < CALLS) {
            if (!typing.isEmpty()) type(typing.removeFirst());
            else if (any(100) < 45) act(run);
            else look();
            calls++;
        }
    }

    /** Sets loud inputs, so that there are clips; returns the number of calls. */
    private int turnUp() {
        for (int channel = 0; channel < 12; channel++) {
            due("setChannel", desk.setChannel(channel, 0, 900), plain.setChannel(channel, 0, 900));
            setChannel(channel, 1);
            setSend(0, channel);
            setSend(1, channel);
        }
        return 48;
    }

    private void type(int character) {
        due("append(" + character + ")", desk.append(character), plain.append(character));
    }

    private void act(int run) {
        // Some runs stay sparse, so that there are long paths and single sends to cut.
        boolean sparse = run % 3 != 0;
        int a = argument(12);
        int b = argument(4);
        switch (any(16)) {
            case 0: case 1: setChannel(a, argument(5)); break;
            case 2: setChannel(a, 1); break;
            case 3: setGroup(b); break;
            case 4: case 5: case 6: setSend(b, sparse ? any(5) : a); break;
            case 7: setOwner(b, sparse ? any(5) : a); break;
            case 8: case 9: setReturn(b, sparse ? any(5) : argument(14) - 1); break;
            case 10: store(); break;
            case 11: recall(); break;
            case 12: case 13: run(); break;
            case 14: if (any(3) == 0) reset(); else undo(); break;
            default: text(); break;
        }
    }

    private void setChannel(int channel, int what) {
        int value = what == 0 ? argument(1001) : what == 1 ? fader() : what == 4 ? argument(16) : any(5) == 0 ? 1 : 0;
        due("setChannel(" + channel + ", " + what + ", " + value + ")", desk.setChannel(channel, what, value),
            plain.setChannel(channel, what, value));
    }

    private void setGroup(int group) {
        int what = argument(2);
        int value = what == 0 ? fader() : any(4) == 0 ? 1 : 0;
        due("setGroup(" + group + ", " + what + ", " + value + ")", desk.setGroup(group, what, value),
            plain.setGroup(group, what, value));
    }

    private void setSend(int feed, int channel) {
        int value = fader();
        due("setSend(" + feed + ", " + channel + ", " + value + ")", desk.setSend(feed, channel, value),
            plain.setSend(feed, channel, value));
    }

    private void setOwner(int feed, int channel) {
        int is = argument(2);
        due("setOwner(" + feed + ", " + channel + ", " + is + ")", desk.setOwner(feed, channel, is),
            plain.setOwner(feed, channel, is));
    }

    private void setReturn(int feed, int channel) {
        due("setReturn(" + feed + ", " + channel + ")", desk.setReturn(feed, channel), plain.setReturn(feed, channel));
    }

    private void store() {
        int scene = argument(any(2) == 0 ? 2 : 6);
        due("store(" + scene + ")", desk.store(scene), plain.store(scene));
    }

    private void recall() {
        int scene = argument(any(2) == 0 ? 2 : 6);
        int ticks = any(3) == 0 ? argument(101) : any(8);
        due("recall(" + scene + ", " + ticks + ")", desk.recall(scene, ticks), plain.recall(scene, ticks));
    }

    private void run() {
        int ticks = any(6) == 0 ? argument(101) : 1 + any(3);
        due("run(" + ticks + ")", desk.run(ticks), plain.run(ticks));
    }

    private void reset() {
        due("reset()", desk.reset(), plain.reset());
    }

    private void undo() {
        due("undo()", desk.undo(), plain.undo());
    }

    private void text() {
        switch (any(8)) {
            case 0: due("clearText()", desk.clearText(), plain.clearText()); break;
            case 1: type(argument(256)); break;
            case 2: case 3: case 4: for (char character : items(1 + any(2)).toCharArray()) typing.add(character); break;
            default: loadOrClear(); break;
        }
    }

    private void loadOrClear() {
        int got = desk.load();
        due("load()", got, plain.load());
        if (got < 0) due("clearText()", desk.clearText(), plain.clearText());
    }

    private void look() {
        int channel = argument(12);
        int few = any(3) == 0 ? channel : any(5);
        int feed = argument(4);
        int what = argument(11);
        switch (any(14)) {
            case 0: due("count(" + what + ")", desk.count(what), plain.count(what)); break;
            case 1: case 2: lookAtChannel(channel, argument(9)); break;
            case 3: lookAtGroup(feed, argument(4)); break;
            case 4: lookAtFeed(feed, argument(4)); break;
            case 5: lookAtSend(feed, few, argument(2)); break;
            case 6: lookAtScene(argument(6), argument(17)); break;
            case 7: due("why(" + channel + ")", desk.why(channel), plain.why(channel)); break;
            case 8: lookAtPath(few, feed, argument(6) - 1); break;
            case 9: due("loudest(" + few + ", " + feed + ")", desk.loudest(few, feed), plain.loudest(few, feed)); break;
            case 10: due("loops()", desk.loops(), plain.loops()); break;
            case 11: due("hearers(" + feed + ")", desk.hearers(feed), plain.hearers(feed)); break;
            case 12: lookAhead(feed, any(4) == 0 ? argument(101) : any(9)); break;
            default: due("cut(" + feed + ")", desk.cut(feed), plain.cut(feed)); break;
        }
    }

    private void lookAtChannel(int channel, int what) {
        due("channel(" + channel + ", " + what + ")", desk.channel(channel, what), plain.channel(channel, what));
    }

    private void lookAtGroup(int group, int what) {
        due("group(" + group + ", " + what + ")", desk.group(group, what), plain.group(group, what));
    }

    private void lookAtFeed(int feed, int what) {
        due("feed(" + feed + ", " + what + ")", desk.feed(feed, what), plain.feed(feed, what));
    }

    private void lookAtSend(int feed, int channel, int what) {
        due("send(" + feed + ", " + channel + ", " + what + ")", desk.send(feed, channel, what),
            plain.send(feed, channel, what));
    }

    private void lookAtScene(int scene, int index) {
        due("scene(" + scene + ", " + index + ")", desk.scene(scene, index), plain.scene(scene, index));
    }

    private void lookAtPath(int channel, int feed, int index) {
        due("path(" + channel + ", " + feed + ", " + index + ")", desk.path(channel, feed, index),
            plain.path(channel, feed, index));
    }

    private void lookAhead(int feed, int ticks) {
        due("outputIn(" + feed + ", " + ticks + ")", desk.outputIn(feed, ticks), plain.outputIn(feed, ticks));
    }

    // ---- ways

    /** Joins some channels and feeds, and then looks at all paths and at what follows from them. */
    private void goAllWays() {
        int channels = 4 + any(2);
        int density = 2 + any(5);
        for (int channel = 0; channel < channels; channel++) {
            setChannel(channel, 1);
            for (int feed = 0; feed < 4; feed++) {
                if (any(density) == 0) setSend(feed, channel);
                if (any(4) == 0) setOwner(feed, channel);
            }
        }
        for (int feed = 0; feed < 4; feed++) setReturn(feed, any(channels));
        due("loops()", desk.loops(), plain.loops());
        for (int feed = 0; feed < 4; feed++) {
            due("hearers(" + feed + ")", desk.hearers(feed), plain.hearers(feed));
            due("cut(" + feed + ")", desk.cut(feed), plain.cut(feed));
            for (int channel = 0; channel < channels; channel++) {
                for (int index = -1; index <= 4; index++) lookAtPath(channel, feed, index);
                due("loudest(" + channel + ", " + feed + ")", desk.loudest(channel, feed), plain.loudest(channel, feed));
            }
        }
    }

    // ---- texts

    /** Types a text that may have an error, loads it, and looks at what it can have set. */
    private void read() {
        String text = spoil(items(any(5)));
        if (text.length() > 140) text = text.substring(0, 140);
        for (char character : text.toCharArray()) type(character);
        due("load of '" + text + "'", desk.load(), plain.load());
        for (int channel = 0; channel < 12; channel++) {
            for (int what = 0; what <= 4; what++) lookAtChannel(channel, what);
            for (int feed = 0; feed < 4; feed++) lookAtSend(feed, channel, 0);
        }
        for (int what = 9; what <= 10; what++) due("count(" + what + ")", desk.count(what), plain.count(what));
    }

    private String items(int count) {
        StringBuilder text = new StringBuilder();
        for (int item = 0; item < count; item++) {
            if (any(2) == 0) channelItem(text);
            else feedItem(text);
        }
        return text.toString();
    }

    private void channelItem(StringBuilder text) {
        put(text, "c");
        put(text, number(12));
        String letters = "ifgms";
        int told = 1 + any(4);
        for (int letter = 0; letter < told; letter++) {
            char which = letters.charAt(any(letters.length()));
            if (any(25) > 0) letters = letters.replace(String.valueOf(which), "");
            put(text, String.valueOf(which));
            if (which == 'i') put(text, number(1001));
            if (which == 'f') put(text, number(101));
            if (which == 'g') put(text, groups());
        }
        put(text, ";");
    }

    private String groups() {
        String digits = any(25) == 0 ? "011234" : "0123";
        StringBuilder groups = new StringBuilder();
        int length = 1 + any(4);
        for (int index = 0; index < length; index++) {
            int at = any(digits.length());
            groups.append(digits.charAt(at));
            digits = digits.substring(0, at) + digits.substring(at + 1);
        }
        return groups.toString();
    }

    private void feedItem(StringBuilder text) {
        put(text, "x");
        put(text, number(4));
        put(text, ":");
        int sends = any(4);
        for (int send = 0; send < sends; send++) {
            if (send > 0) put(text, ",");
            put(text, number(any(2) == 0 ? 3 : 12));
            put(text, "=");
            put(text, number(101));
        }
        put(text, ";");
    }

    private String number(int end) {
        if (any(40) == 0) return String.valueOf(end);
        if (any(60) == 0) return "0" + any(end);
        return String.valueOf(any(5) == 0 ? end - 1 : any(end));
    }

    private void put(StringBuilder text, String part) {
        while (any(12) == 0) text.append(' ');
        text.append(part);
    }

    /** Takes away, puts in, or changes a character, or cuts the end; or leaves the text as it is. */
    private String spoil(String text) {
        int at = any(text.length() + 1);
        String ahead = text.substring(0, at);
        String behind = text.substring(at);
        String rest = behind.isEmpty() ? "" : behind.substring(1);
        switch (any(9)) {
            case 0: return ahead + rest;
            case 1: return ahead + sign() + behind;
            case 2: return ahead + sign() + rest;
            case 3: return ahead;
            default: return text;
        }
    }

    private char sign() {
        String signs = "cxifgms:;,=0123456789 -.\t/?CX";
        return any(15) == 0 ? (char) (1 + any(255)) : signs.charAt(any(signs.length()));
    }
}
