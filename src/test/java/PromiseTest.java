import java.util.function.Consumer;

/** One test for each promise of ../shared/DOC.md: ordinary inputs, edges, wrong inputs. */
public final class PromiseTest {
    private static final int INVALID = -1;
    private static final int ILLEGAL = -2;
    private static final int FULL = -3;
    private static final int NONE = -99;
    private static final int[] WRONG_NUMBERS = {Integer.MIN_VALUE, -2, 12, 1 << 16, Integer.MAX_VALUE};
    private static final Checks checks = new Checks();

    private PromiseTest() {
    }

    public static void main(String[] arguments) {
        newObject();
        setChannel();
        setGroup();
        setSend();
        setOwner();
        setReturn();
        store();
        recall();
        fades();
        touchedInFades();
        run();
        ticks();
        reset();
        undo();
        append();
        clearText();
        load();
        loadErrors();
        count();
        channel();
        group();
        feed();
        send();
        scene();
        why();
        path();
        loudest();
        loops();
        hearers();
        outputIn();
        cut();
        errorsChangeNothing();
        looksChangeNothing();
        checks.finish();
    }

    // ---- help

    private static void due(String call, int got, int want) {
        checks.due(call, got, want);
    }

    private static FeedDesk type(FeedDesk desk, String text) {
        return Desks.type(desk, text);
    }

    private static FeedDesk desk(String patch) {
        return Desks.loaded(patch);
    }

    /** Looks at a desk of its own each time, since nothing is promised beyond 512 calls. */
    private static String lookAfter(Consumer<FeedDesk> calls) {
        return Looks.at(Desks.after(calls));
    }

    private static void unchangedBy(String what, Consumer<FeedDesk> setUp, Consumer<FeedDesk> call) {
        checks.same(what, lookAfter(setUp.andThen(call)), lookAfter(setUp));
    }

    // ---- the promises

    private static void newObject() {
        checks.part("1 FeedDesk");
        FeedDesk desk = new FeedDesk();
        for (int what = 0; what <= 10; what++) due("count " + what, desk.count(what), what == 4 || what == 5 ? NONE : 0);
        for (int channel = 0; channel < 12; channel++) {
            for (int what = 0; what <= 7; what++) due("channel what " + what, desk.channel(channel, what), 0);
            due("channel what 8", desk.channel(channel, 8), NONE);
            for (int feed = 0; feed < 4; feed++) due("send", desk.send(feed, channel, 0), 0);
        }
        for (int index = 0; index < 4; index++) {
            due("master", desk.group(index, 0), 100);
            for (int what = 1; what <= 3; what++) due("group what " + what, desk.group(index, what), 0);
            due("owners", desk.feed(index, 0), 0);
            due("return", desk.feed(index, 1), NONE);
            due("output", desk.feed(index, 2), 0);
            due("reached", desk.feed(index, 3), 0);
        }
        for (int scene = 0; scene < 6; scene++) due("scene", desk.scene(scene, 0), NONE);
        due("undo", desk.undo(), ILLEGAL);
        due("load of the empty text", desk.load(), 0);
        due("INVALID_ARGUMENT", FeedDesk.INVALID_ARGUMENT, INVALID);
        due("ILLEGAL_STATE", FeedDesk.ILLEGAL_STATE, ILLEGAL);
        due("CAPACITY_EXCEEDED", FeedDesk.CAPACITY_EXCEEDED, FULL);
        due("NONE", FeedDesk.NONE, NONE);
    }

    private static void setChannel() {
        checks.part("2 setChannel");
        int[] most = {1000, 100, 1, 1, 15};
        for (int what = 0; what < most.length; what++) {
            FeedDesk desk = new FeedDesk();
            for (int channel = 0; channel < 12; channel += 11) {
                due("first", desk.setChannel(channel, what, most[what]), 0);
                due("then", desk.channel(channel, what), most[what]);
                due("back", desk.setChannel(channel, what, 0), most[what]);
                due("too great", desk.setChannel(channel, what, most[what] + 1), INVALID);
                due("below 0", desk.setChannel(channel, what, -1), INVALID);
                due("at the end", desk.channel(channel, what), 0);
            }
            due("an action each", desk.count(9), 4);
        }
        FeedDesk desk = new FeedDesk();
        due("the neighbour", desk.setChannel(5, 1, 50), 0);
        due("the neighbour stays", desk.channel(4, 1), 0);
        due("the same value", desk.setChannel(5, 1, 50), 50);
        due("is an action too", desk.count(9), 2);
        for (int wrong : WRONG_NUMBERS) {
            due("channel " + wrong, desk.setChannel(wrong, 0, 0), INVALID);
            due("what " + wrong, desk.setChannel(0, wrong, 0), INVALID);
        }
        due("channel -1", desk.setChannel(-1, 0, 0), INVALID);
        due("what -1", desk.setChannel(0, -1, 0), INVALID);
        due("what 5", desk.setChannel(0, 5, 0), INVALID);
        due("value", desk.setChannel(0, 0, Integer.MAX_VALUE), INVALID);
        due("value", desk.setChannel(0, 4, Integer.MIN_VALUE), INVALID);
        due("errors are no actions", desk.count(9), 2);
    }

    private static void setGroup() {
        checks.part("3 setGroup");
        FeedDesk desk = new FeedDesk();
        due("master", desk.setGroup(3, 0, 0), 100);
        due("master", desk.setGroup(3, 0, 100), 0);
        due("master", desk.setGroup(0, 0, 99), 100);
        due("solo", desk.setGroup(3, 1, 1), 0);
        due("solo", desk.setGroup(3, 1, 1), 1);
        due("soloed", desk.count(7), 8);
        due("no solo", desk.setGroup(3, 1, 0), 1);
        due("soloed", desk.count(7), 0);
        due("actions", desk.count(9), 5);
        FeedDesk fresh = new FeedDesk();
        for (int wrong : WRONG_NUMBERS) {
            due("group " + wrong, fresh.setGroup(wrong, 0, 0), INVALID);
            due("what " + wrong, fresh.setGroup(0, wrong, 0), INVALID);
        }
        due("group -1", fresh.setGroup(-1, 0, 0), INVALID);
        due("group 4", fresh.setGroup(4, 0, 0), INVALID);
        due("what -1", fresh.setGroup(0, -1, 0), INVALID);
        due("what 2", fresh.setGroup(0, 2, 0), INVALID);
        due("master 101", fresh.setGroup(0, 0, 101), INVALID);
        due("master -1", fresh.setGroup(0, 0, -1), INVALID);
        due("solo 2", fresh.setGroup(0, 1, 2), INVALID);
        due("solo -1", fresh.setGroup(0, 1, -1), INVALID);
        due("errors are no actions", fresh.count(9), 0);
    }

    private static void setSend() {
        checks.part("4 setSend");
        FeedDesk desk = new FeedDesk();
        due("first", desk.setSend(3, 11, 100), 0);
        due("then", desk.setSend(3, 11, 1), 100);
        due("other feed", desk.setSend(2, 11, 7), 0);
        due("other channel", desk.setSend(3, 0, 8), 0);
        due("send", desk.send(3, 11, 0), 1);
        due("send", desk.send(2, 11, 0), 7);
        due("send", desk.send(3, 0, 0), 8);
        due("actions", desk.count(9), 4);
        for (int wrong : WRONG_NUMBERS) {
            due("feed " + wrong, desk.setSend(wrong, 0, 0), INVALID);
            due("channel " + wrong, desk.setSend(0, wrong, 0), INVALID);
        }
        due("feed 4", desk.setSend(4, 0, 0), INVALID);
        due("feed -1", desk.setSend(-1, 0, 0), INVALID);
        due("channel -1", desk.setSend(0, -1, 0), INVALID);
        due("send 101", desk.setSend(0, 0, 101), INVALID);
        due("send -1", desk.setSend(0, 0, -1), INVALID);
        due("errors are no actions", desk.count(9), 4);
    }

    private static void setOwner() {
        checks.part("5 setOwner");
        FeedDesk desk = new FeedDesk();
        due("first", desk.setOwner(1, 11, 1), 1);
        due("second", desk.setOwner(1, 0, 1), 2);
        due("again", desk.setOwner(1, 0, 1), 2);
        due("owners", desk.feed(1, 0), 1 | 1 << 11);
        due("owners of another feed", desk.feed(0, 0), 0);
        due("away", desk.setOwner(1, 11, 0), 1);
        due("away again", desk.setOwner(1, 11, 0), 1);
        due("actions", desk.count(9), 5);
        FeedDesk fresh = new FeedDesk();
        for (int wrong : WRONG_NUMBERS) {
            due("feed " + wrong, fresh.setOwner(wrong, 0, 1), INVALID);
            due("channel " + wrong, fresh.setOwner(0, wrong, 1), INVALID);
            due("is " + wrong, fresh.setOwner(0, 0, wrong), INVALID);
        }
        due("feed 4", fresh.setOwner(4, 0, 1), INVALID);
        due("feed -1", fresh.setOwner(-1, 0, 1), INVALID);
        due("channel -1", fresh.setOwner(0, -1, 1), INVALID);
        due("is 2", fresh.setOwner(0, 0, 2), INVALID);
        due("is -1", fresh.setOwner(0, 0, -1), INVALID);
        due("errors are no actions", fresh.count(9), 0);
    }

    private static void setReturn() {
        checks.part("6 setReturn");
        FeedDesk desk = new FeedDesk();
        due("none to none", desk.setReturn(0, -1), -1);
        due("first", desk.setReturn(0, 11), -1);
        due("the same", desk.setReturn(0, 11), 11);
        due("taken", desk.setReturn(1, 11), ILLEGAL);
        due("none beside another none", desk.setReturn(1, -1), -1);
        due("away", desk.setReturn(0, -1), 11);
        due("free again", desk.setReturn(1, 11), -1);
        due("to another", desk.setReturn(1, 0), 11);
        due("return", desk.feed(1, 1), 0);
        due("return", desk.feed(0, 1), NONE);
        due("taken, the channel 0 as well", desk.setReturn(0, 0), ILLEGAL);
        due("it is in the channel's words, too", desk.channel(0, 8), 1);
        FeedDesk fresh = new FeedDesk();
        fresh.setReturn(2, 3);
        for (int wrong : WRONG_NUMBERS) {
            due("feed " + wrong, fresh.setReturn(wrong, 3), INVALID);
            due("channel " + wrong, fresh.setReturn(0, wrong), INVALID);
        }
        due("feed 4 comes first", fresh.setReturn(4, 3), INVALID);
        due("feed -1", fresh.setReturn(-1, -1), INVALID);
        due("taken", fresh.setReturn(3, 3), ILLEGAL);
        due("errors are no actions", fresh.count(9), 1);
    }

    private static void store() {
        checks.part("7 store");
        FeedDesk desk = desk("c0f40;c11f60m;");
        due("first", desk.store(5), 1);
        desk.setGroup(2, 0, 33);
        due("second", desk.store(0), 2);
        due("fader", desk.scene(5, 0), 40);
        due("fader", desk.scene(5, 11), 60);
        due("master", desk.scene(5, 14), 100);
        due("master", desk.scene(0, 14), 33);
        due("mutes", desk.scene(5, 16), 1 << 11);
        desk.setChannel(0, 1, 41);
        due("the scene stays", desk.scene(5, 0), 40);
        due("again", desk.store(5), 2);
        due("in place", desk.scene(5, 0), 41);
        due("actions", desk.count(9), 5);
        FeedDesk fresh = new FeedDesk();
        for (int wrong : WRONG_NUMBERS) due("scene " + wrong, fresh.store(wrong), INVALID);
        due("scene 6", fresh.store(6), INVALID);
        due("scene -1", fresh.store(-1), INVALID);
        due("errors are no actions", fresh.count(9), 0);
    }

    private static void recall() {
        checks.part("8 recall");
        FeedDesk desk = desk("c0f40;c1f60m;");
        due("empty", desk.recall(1, 0), ILLEGAL);
        due("empty, and ticks out of range", desk.recall(1, 101), INVALID);
        desk.store(1);
        due("nothing differs", desk.recall(1, 0), 0);
        desk.setChannel(1, 2, 0);
        due("mutes do not count", desk.recall(1, 5), 0);
        due("begun", desk.count(4), 0);
        due("ticks", desk.count(5), 5);
        due("not yet muted", desk.channel(1, 2), 0);
        desk.setChannel(0, 1, 0);
        desk.setGroup(3, 0, 0);
        desk.setGroup(0, 0, 1);
        due("three differ", desk.recall(1, 0), 3);
        due("no fade any more", desk.count(4), NONE);
        due("no fade any more", desk.count(5), NONE);
        due("fader at once", desk.channel(0, 1), 40);
        due("master at once", desk.group(3, 0), 100);
        due("mute at once", desk.channel(1, 2), 1);
        due("100 ticks", desk.recall(1, 100), 0);
        due("ticks", desk.count(5), 100);
        desk.setChannel(0, 1, 5);
        due("1 tick", desk.recall(1, 1), 1);
        due("not at once", desk.channel(0, 1), 5);
        due("ticks", desk.count(5), 1);
        desk.run(1);
        due("but in this tick", desk.channel(0, 1), 40);
        FeedDesk fresh = new FeedDesk();
        fresh.store(0);
        for (int wrong : WRONG_NUMBERS) due("scene " + wrong, fresh.recall(wrong, 1), INVALID);
        due("scene 6", fresh.recall(6, 0), INVALID);
        due("scene -1", fresh.recall(-1, 0), INVALID);
        due("ticks -1", fresh.recall(0, -1), INVALID);
        due("ticks 101", fresh.recall(0, 101), INVALID);
        due("errors are no actions", fresh.count(9), 1);
        due("an action", fresh.recall(0, 0), 0);
        due("an action", fresh.count(9), 2);
    }

    private static void fades() {
        checks.part("8 and 9 fades");
        FeedDesk desk = desk("c0f10;c1f100m;");
        desk.store(0);
        type(desk, "c0f0;c1f0;c2f7m;").load();
        desk.setGroup(2, 0, 0);
        desk.setChannel(1, 2, 0);
        due("differ", desk.recall(0, 3), 4);
        desk.run(1);
        due("step", desk.count(4), 1);
        due("0 + 10 * 1 // 3", desk.channel(0, 1), 3);
        due("7 + -7 * 1 // 3", desk.channel(2, 1), 5);
        due("0 + 100 * 1 // 3", desk.group(2, 0), 33);
        due("mutes wait", desk.channel(1, 2), 0);
        desk.run(1);
        due("0 + 10 * 2 // 3", desk.channel(0, 1), 6);
        due("7 + -7 * 2 // 3, toward 0", desk.channel(2, 1), 3);
        due("mutes in the step 2 of 3", desk.channel(1, 2), 1);
        due("mutes in the step 2 of 3", desk.channel(2, 2), 0);
        desk.run(1);
        due("at the end", desk.channel(0, 1), 10);
        due("at the end", desk.channel(2, 1), 0);
        due("at the end", desk.group(2, 0), 100);
        due("over", desk.count(4), NONE);
        due("over", desk.count(5), NONE);

        FeedDesk other = desk("c0m;");
        other.store(3);
        other.setChannel(0, 2, 0);
        other.recall(3, 1);
        other.run(1);
        due("mutes in the step 1 of 1", other.channel(0, 2), 1);
        other.setChannel(0, 2, 0);
        other.setChannel(0, 1, 50);
        other.recall(3, 4);
        other.run(1);
        due("mutes wait", other.channel(0, 2), 0);
        due("50 - 50 * 1 // 4, toward 0", other.channel(0, 1), 38);
        other.run(1);
        due("mutes in the step 2 of 4", other.channel(0, 2), 1);
        due("25", other.channel(0, 1), 25);
        other.recall(3, 2);
        due("in place of the one going on", other.count(4), 0);
        other.run(1);
        due("begun from where it stood", other.channel(0, 1), 13);
        other.setChannel(0, 1, 90);
        other.store(3);
        other.recall(3, 0);
        due("a recall at once ends the fade", other.count(5), NONE);
        other.run(5);
        due("nothing moves any more", other.channel(0, 1), 90);
    }

    private static void touchedInFades() {
        checks.part("8 and 9 touched");
        FeedDesk desk = desk("c0f100m;c1f100m;c2f100m;c3f100m;");
        desk.store(0);
        for (int channel = 0; channel < 4; channel++) {
            desk.setChannel(channel, 1, 0);
            desk.setChannel(channel, 2, 0);
        }
        desk.setGroup(0, 0, 0);
        desk.setGroup(1, 0, 0);
        desk.setGroup(2, 0, 0);
        due("no fade, so not touched", desk.channel(0, 7), 0);
        due("no fade, so not touched", desk.group(0, 3), 0);
        desk.recall(0, 4);
        desk.run(1);
        desk.setChannel(0, 1, 25);
        desk.setChannel(1, 2, 0);
        desk.setChannel(2, 0, 5);
        desk.setChannel(2, 3, 1);
        desk.setChannel(2, 4, 1);
        desk.setGroup(0, 0, 7);
        desk.setGroup(1, 1, 0);
        int[] channels = {1, 1, 0, 0};
        int[] groups = {1, 0, 0, 0};
        for (int index = 0; index < 4; index++) {
            due("touched channel " + index, desk.channel(index, 7), channels[index]);
            due("touched group " + index, desk.group(index, 3), groups[index]);
        }
        desk.run(2);
        int[] faders = {25, 25, 75, 75};
        int[] mutes = {0, 0, 1, 1};
        int[] masters = {7, 75, 75, 100};
        for (int index = 0; index < 4; index++) {
            due("fader " + index, desk.channel(index, 1), faders[index]);
            due("mute " + index, desk.channel(index, 2), mutes[index]);
            due("master " + index, desk.group(index, 0), masters[index]);
        }
        type(desk, "c2m;c3i1s;").load();
        due("touched by a patch", desk.channel(2, 7), 1);
        due("not touched by a patch", desk.channel(3, 7), 0);
        desk.run(1);
        due("did not follow", desk.channel(2, 1), 75);
        due("followed", desk.channel(3, 1), 100);
        due("no fade, so not touched", desk.channel(0, 7), 0);
        due("no fade, so not touched", desk.group(0, 3), 0);
        desk.recall(0, 2);
        desk.setChannel(0, 1, 9);
        desk.setGroup(0, 0, 9);
        due("touched ahead of the first step", desk.channel(0, 7), 1);
        due("touched ahead of the first step", desk.group(0, 3), 1);
        desk.recall(0, 2);
        due("not touched in the new fade", desk.channel(0, 7), 0);
        due("not touched in the new fade", desk.group(0, 3), 0);

        FeedDesk again = new FeedDesk();
        again.store(1);
        again.recall(1, 4);
        again.run(1);
        again.setChannel(0, 1, 80);
        again.store(1);
        again.run(1);
        due("a fade goes to what the scene keeps, touched channels stay", again.channel(0, 1), 80);
        again.setGroup(0, 0, 40);
        again.store(1);
        again.setGroup(1, 0, 20);
        again.store(1);
        again.recall(1, 4);
        type(again, "c5f60;").load();
        again.store(1);
        again.recall(1, 0);
        due("stored", again.channel(5, 1), 60);

        FeedDesk live = desk("c0f40;");
        live.store(0);
        live.setChannel(0, 1, 0);
        live.recall(0, 4);
        live.store(0);
        live.run(4);
        due("the scene was stored anew within the fade", live.channel(0, 1), 0);
    }

    private static void run() {
        checks.part("9 run");
        FeedDesk desk = desk("c0i1000f50;c1i7f50;");
        due("500 + 3", desk.run(1), 503);
        due("ticks", desk.count(0), 1);
        due("100 ticks", desk.run(100), 503);
        due("ticks", desk.count(0), 101);
        due("one action each", desk.count(9), 3);
        due("0", desk.run(0), INVALID);
        due("-1", desk.run(-1), INVALID);
        due("101", desk.run(101), INVALID);
        due("least", desk.run(Integer.MIN_VALUE), INVALID);
        due("greatest", desk.run(Integer.MAX_VALUE), INVALID);
        due("errors are no actions", desk.count(9), 3);
        for (int block = 0; block < 98; block++) desk.run(100);
        due("ticks", desk.count(0), 9901);
        due("beyond the limit", desk.run(100), FULL);
        due("beyond the limit, and out of range", desk.run(101), INVALID);
        due("up to the limit", desk.run(99), 503);
        due("ticks", desk.count(0), 10000);
        due("beyond the limit", desk.run(1), FULL);
        due("ticks", desk.count(0), 10000);
        due("undo", desk.undo(), 4);
        due("room again", desk.run(1), 503);
    }

    private static void ticks() {
        checks.part("9 ticks");
        // The output comes back a tick later; sums are rounded down channel by channel.
        FeedDesk desk = desk("c0i99f50;c1i99f50;c2i5f100;x0:0=99,1=99;x1:2=100;");
        desk.setReturn(0, 2);
        due("49 + 49 + 5", desk.run(1), 103);
        due("99 * 49 / 100, twice", desk.feed(0, 2), 96);
        due("the output of the tick before", desk.channel(2, 6), 5);
        due("feed 1", desk.feed(1, 2), 5);
        due("49 + 49 + 101", desk.run(1), 199);
        due("the output of the tick before", desk.channel(2, 6), 101);
        due("feed 1", desk.feed(1, 2), 101);
        due("peak", desk.count(2), 199);
        desk.setReturn(0, -1);
        due("main sum", desk.run(1), 103);
        due("the peak stays", desk.count(2), 199);
        due("main sum", desk.count(1), 103);

        // A loop that grows until it clips, into which an input is mixed.
        FeedDesk loop = desk("c0i1000f100;x0:0=100;");
        loop.setReturn(0, 0);
        due("1000 each tick", loop.run(9), 9000);
        due("no clip yet", loop.count(3), 0);
        due("the signal is limited", loop.run(1), 9999);
        due("signal", loop.channel(0, 6), 9999);
        due("9999 is no clip", loop.count(3), 0);
        due("output", loop.feed(0, 2), 9999);
        due("10000 would be one", loop.run(2), 9999);
        due("but the signal is limited ahead", loop.count(3), 0);

        // Two channels clip two feeds in each tick.
        FeedDesk clips = new FeedDesk();
        for (int channel = 0; channel < 12; channel++) {
            type(clips, "c" + channel + "i1000f100;x0:" + channel + "=100;x1:" + channel + "=100;").load();
        }
        due("the main sum is not limited", clips.run(1), 12000);
        due("two clips", clips.count(3), 2);
        due("limited", clips.feed(0, 2), 9999);
        due("limited", clips.feed(1, 2), 9999);
        clips.run(5);
        due("two clips a tick", clips.count(3), 12);
    }

    private static void reset() {
        checks.part("10 reset");
        FeedDesk desk = new FeedDesk();
        for (int channel = 0; channel < 12; channel++) type(desk, "c" + channel + "i1000f100;x3:" + channel + "=90;").load();
        desk.run(2);
        due("clips", desk.count(3), 2);
        due("the peak", desk.reset(), 12000);
        due("peak", desk.count(2), 0);
        due("clips", desk.count(3), 0);
        due("the main sum stays", desk.count(1), 12000);
        due("nothing to reset", desk.reset(), 0);
        desk.undo();
        desk.undo();
        due("an action each", desk.count(2), 12000);
        due("an action each", desk.count(3), 2);
    }

    private static void undo() {
        checks.part("11 undo");
        FeedDesk desk = new FeedDesk();
        due("empty", desk.undo(), ILLEGAL);
        for (int value = 1; value <= 7; value++) desk.setChannel(0, 0, value);
        due("at most five", desk.count(9), 5);
        for (int left = 4; left >= 0; left--) {
            due("undo", desk.undo(), left);
            due("input", desk.channel(0, 0), left + 2);
        }
        due("the oldest ones were dropped", desk.undo(), ILLEGAL);
        due("what stays", desk.channel(0, 0), 2);
        desk.setChannel(0, 0, 50);
        due("goes on", desk.undo(), 0);
        due("input", desk.channel(0, 0), 2);
        undoOfEach();
        FeedDesk texts = desk("c0f5;");
        type(texts, "c1f6;");
        texts.undo();
        due("the text stays", texts.count(10), 5);
        due("and can be loaded", texts.load(), 1);
        due("fader", texts.channel(1, 1), 6);
        texts.undo();
        due("a loaded text does not come back", texts.count(10), 0);
    }

    private static void undoOfEach() {
        Consumer<FeedDesk> setUp = Desks::busy;
        String state = stateAfter(setUp);
        undone(state, "setChannel", desk -> desk.setChannel(0, 1, 55));
        undone(state, "setChannel", desk -> desk.setChannel(0, 2, 1));
        undone(state, "setChannel", desk -> desk.setChannel(0, 3, 1));
        undone(state, "setChannel", desk -> desk.setChannel(0, 4, 12));
        undone(state, "setGroup", desk -> desk.setGroup(0, 0, 5));
        undone(state, "setGroup", desk -> desk.setGroup(3, 1, 1));
        undone(state, "setSend", desk -> desk.setSend(3, 3, 5));
        undone(state, "setOwner", desk -> desk.setOwner(3, 3, 1));
        undone(state, "setReturn", desk -> desk.setReturn(3, 9));
        undone(state, "store", desk -> desk.store(4));
        undone(state, "store", desk -> desk.store(2));
        undone(state, "recall", desk -> desk.recall(2, 50));
        undone(state, "recall", desk -> desk.recall(2, 0));
        undone(state, "run", desk -> desk.run(1));
        undone(state, "run", desk -> desk.run(100));
        undone(state, "reset", desk -> desk.reset());
        undone(state, "load", desk -> {
            desk.clearText();
            type(desk, "c4i4f4g3ms;x3:4=4;").load();
        });
    }

    private static String stateAfter(Consumer<FeedDesk> calls) {
        return Looks.state(Desks.after(calls));
    }

    private static void undone(String state, String what, Consumer<FeedDesk> action) {
        checks.holds(what + " changes something", !state.equals(stateAfter(desk -> {
            Desks.busy(desk);
            action.accept(desk);
        })));
        checks.same("undo of " + what, stateAfter(desk -> {
            Desks.busy(desk);
            action.accept(desk);
            desk.undo();
        }), state);
    }

    private static void append() {
        checks.part("12 append");
        FeedDesk desk = new FeedDesk();
        due("code 1", desk.append(1), 1);
        due("code 255", desk.append(255), 2);
        due("code 0", desk.append(0), INVALID);
        due("code 256", desk.append(256), INVALID);
        due("code -1", desk.append(-1), INVALID);
        due("least", desk.append(Integer.MIN_VALUE), INVALID);
        due("greatest", desk.append(Integer.MAX_VALUE), INVALID);
        for (int length = 3; length <= 140; length++) due("length", desk.append(';'), length);
        due("no room", desk.append(';'), FULL);
        due("no room, and out of range", desk.append(256), INVALID);
        due("length", desk.count(10), 140);
        due("no action", desk.count(9), 0);
    }

    private static void clearText() {
        checks.part("13 clearText");
        FeedDesk desk = type(new FeedDesk(), "c0f5;");
        due("length", desk.clearText(), 5);
        due("empty", desk.clearText(), 0);
        due("empty", desk.count(10), 0);
        due("nothing is read", desk.load(), 0);
        due("one action, the load", desk.count(9), 1);
        due("from the start again", desk.append('c'), 1);
    }

    private static void load() {
        checks.part("14 load");
        FeedDesk desk = new FeedDesk();
        type(desk, "c11i1000f100g3210ms;c0s;x3:11=100,0=0;x0:;");
        due("items", desk.load(), 4);
        int[] most = {1000, 100, 1, 1, 15};
        for (int what = 0; what < 5; what++) due("channel 11", desk.channel(11, what), most[what]);
        due("channel 0", desk.channel(0, 3), 1);
        due("send", desk.send(3, 11, 0), 100);
        due("the text is empty", desk.count(10), 0);
        due("one action", desk.count(9), 1);
        due("without items", type(desk, "   ").load(), 0);
        due("an action as well", desk.count(9), 2);
        due("the text is empty", desk.count(10), 0);
        due("in any order", type(desk, "c1sg2mf3i4;").load(), 1);
        int[] other = {4, 3, 1, 1, 4};
        for (int what = 0; what < 5; what++) due("channel 1", desk.channel(1, what), other[what]);
        due("the later one counts", type(desk, "x1:2=30,3=4,2=50;c1f9;c1f8;").load(), 3);
        due("the later one counts", desk.send(1, 2, 0), 50);
        due("the other one too", desk.send(1, 3, 0), 4);
        due("the later one counts", desk.channel(1, 1), 8);
        due("what is not told stays", desk.channel(1, 0), 4);
        due("the set then, not in addition", type(desk, "c1g0;").load(), 1);
        due("groups", desk.channel(1, 4), 1);
        due("muted stays", desk.channel(1, 2), 1);
        due("sends that are not told stay", type(desk, "x3:5=6;").load(), 1);
        due("send", desk.send(3, 11, 0), 100);
        due("spaces everywhere", type(desk, " c 2 i 10 f 20 g 13 m s ; x 0 : 2 = 30 , 3 = 40 ; x 1 : ; ").load(), 3);
        due("input", desk.channel(2, 0), 10);
        due("groups", desk.channel(2, 4), 10);
        due("send", desk.send(0, 3, 0), 40);
        StringBuilder longest = new StringBuilder();
        for (int item = 0; item < 35; item++) longest.append("x0:;");
        due("140 characters", type(desk, longest.toString()).load(), 35);
        due("owners keep their sends", desk.setOwner(2, 7, 1), 1);
        due("a send of an owner", type(desk, "x2:7=70;").load(), 1);
        due("send", desk.send(2, 7, 0), 70);
        due("gain", desk.send(2, 7, 1), 0);
    }

    private static void loadErrors() {
        checks.part("14 load errors");
        String[] texts = {"c", "c ", "c0", "c0 ", "c0i", "c0i1", "c0i1  ", "c0m", "c0g", "c0g1", "x", "x0", "x0:", "x0:1",
            "x0:1=", "x0:1=2", "x0:1=2,", "x0:1=2, "};
        for (String text : texts) error(text, text.length());
        error(";", 0);
        error("  y", 2);
        error("C0m;", 0);
        error("cm;", 1);
        error("c-1m;", 1);
        error("c0;", 2);
        error("c00m;", 1);
        error("c12m;", 1);
        error("c12", 1);
        error("c12?", 1);
        error("c 99999999999999999999", 2);
        error("c 4294967296m;", 2);
        error("c0i1001;", 3);
        error("c0i1000 0;", 8);
        error("c0i 01", 4);
        error("c0i00;", 3);
        error("c0i 0", 5);
        error("c0f101;", 3);
        error("c0f100.;", 6);
        error("c0i1 0;", 5);
        error("c0i1i2;", 4);
        error("c0f1f2;", 4);
        error("c0mm;", 3);
        error("c0ss;", 3);
        error("c0g1g2;", 4);
        error("c0g11;", 4);
        error("c0g01230;", 7);
        error("c0g01234;", 7);
        error("c0g4;", 3);
        error("c0g;", 3);
        error("c0g0 1;", 5);
        error("c0x;", 2);
        error("c0m,", 3);
        error("c0mc1m;", 3);
        error("x4:;", 1);
        error("x00:;", 1);
        error("x:;", 1);
        error("x0;", 2);
        error("x0:,;", 3);
        error("x0:12=1;", 3);
        error("x0:01=1;", 3);
        error("x0:1;", 4);
        error("x0:1:1;", 4);
        error("x0:1=;", 5);
        error("x0:1=101;", 5);
        error("x0:1=01;", 5);
        error("x0:1=1=1;", 6);
        error("x0:1=1,,", 7);
        error("x0:1=1,;", 7);
        error("x0:1=1 2=2;", 7);
        error("x0:1=1;;", 7);
        error("c0m\t;", 3);
        error("c0m;" + (char) 255, 4);
        error("c0f5;c1f6;x0:1=1;q", 17);
        staleText();
        FeedDesk desk = type(new FeedDesk(), "c0f5;q");
        due("nothing changes", desk.load(), -1005);
        due("fader", desk.channel(0, 1), 0);
        due("history", desk.count(9), 0);
        due("the text is kept", desk.count(10), 6);
        due("the same again", desk.load(), -1005);
        StringBuilder longest = new StringBuilder("c0f");
        for (int digit = 0; digit < 137; digit++) longest.append('9');
        error(longest.toString(), 3);
        StringBuilder spaces = new StringBuilder("c");
        for (int space = 0; space < 139; space++) spaces.append(' ');
        error(spaces.toString(), 140);
    }

    /** What was in the text ahead of clearText() must not be read any more. */
    private static void staleText() {
        String[] texts = {"c0m", "c0", "c0g0", "x0:1=1", "x0:1", "x0"};
        for (String text : texts) {
            for (String stale : new String[] {"c0ms;", "c0g01;", "x0:1=1;", "x0:1=12,", ";;;;;;;;"}) {
                FeedDesk desk = type(new FeedDesk(), stale);
                desk.clearText();
                due("load of '" + text + "' in place of '" + stale + "'", type(desk, text).load(), -1000 - text.length());
            }
        }
        for (String end : new String[] {"c0", "c0m", "c0i", "c0i1", "c0g", "c0g1", "x", "x0", "x0:", "x0:1", "x0:1="}) {
            StringBuilder longest = new StringBuilder();
            while (longest.length() + end.length() < 140) longest.append(' ');
            error(longest.append(end).toString(), 140);
        }
    }

    private static void error(String text, int position) {
        due("load of '" + text + "'", type(new FeedDesk(), text).load(), -1000 - position);
        unchangedBy("load of '" + text + "'", desk -> type(desk, text), desk -> desk.load());
    }

    private static void count() {
        checks.part("15 count");
        FeedDesk desk = desk("c0i100f50;c11i100f50g2;c3i5;");
        due("audible", desk.count(8), 1 | 1 << 11);
        due("the level 1 is audible", desk("c5f1;").count(8), 1 << 5);
        desk.setGroup(2, 1, 1);
        desk.setGroup(0, 1, 1);
        due("soloed", desk.count(7), 5);
        due("audible", desk.count(8), 1 << 11);
        desk.run(2);
        due("ticks", desk.count(0), 2);
        due("main sum", desk.count(1), 50);
        due("peak", desk.count(2), 50);
        due("clips", desk.count(3), 0);
        due("no fade", desk.count(4), NONE);
        due("no fade", desk.count(5), NONE);
        desk.store(0);
        desk.store(5);
        due("scenes", desk.count(6), 2);
        desk.recall(5, 2);
        due("fade", desk.count(4), 0);
        due("fade", desk.count(5), 2);
        desk.run(1);
        due("fade", desk.count(4), 1);
        due("fade", desk.count(5), 2);
        due("history", desk.count(9), 5);
        type(desk, "abc");
        due("text", desk.count(10), 3);
        for (int wrong : WRONG_NUMBERS) due("what " + wrong, desk.count(wrong), INVALID);
        due("what 11", desk.count(11), INVALID);
        due("what -1", desk.count(-1), INVALID);
    }

    private static void channel() {
        checks.part("16 channel");
        FeedDesk desk = desk("c7i300f77g13s;");
        int[] want = {300, 77, 0, 1, 10, 77, 0, 0, NONE};
        for (int what = 0; what <= 8; what++) due("what " + what, desk.channel(7, what), want[what]);
        desk.setGroup(1, 0, 50);
        desk.setGroup(3, 0, 99);
        due("77 * 50 / 100 = 38, 38 * 99 / 100 = 37", desk.channel(7, 5), 37);
        desk.setGroup(0, 1, 1);
        due("a safe channel stays", desk.channel(7, 5), 37);
        desk.setChannel(7, 3, 0);
        due("one that is not does not", desk.channel(7, 5), 0);
        desk.setGroup(3, 1, 1);
        due("one of its groups is soloed", desk.channel(7, 5), 37);
        desk.setChannel(7, 2, 1);
        due("muted", desk.channel(7, 5), 0);
        due("muted", desk.channel(7, 2), 1);
        desk.run(1);
        due("a muted channel has its signal", desk.channel(7, 6), 300);
        desk.setReturn(2, 7);
        due("the feed that comes back", desk.channel(7, 8), 2);
        due("into this one only", desk.channel(6, 8), NONE);
        for (int wrong : WRONG_NUMBERS) {
            due("channel " + wrong, desk.channel(wrong, 0), INVALID);
            due("what " + wrong, desk.channel(0, wrong), INVALID);
        }
        due("channel -1", desk.channel(-1, 0), INVALID);
        due("channel -1", desk.channel(-1, 8), INVALID);
        due("what -1", desk.channel(0, -1), INVALID);
        due("what 9", desk.channel(0, 9), INVALID);
        // The order of the groups matters: 99 * 50 / 100 = 49, 49 * 67 / 100 = 32, but the other way round 33.
        FeedDesk order = desk("c0f99g01;");
        order.setGroup(0, 0, 50);
        order.setGroup(1, 0, 67);
        due("by ascending numbers", order.channel(0, 5), 32);
    }

    private static void group() {
        checks.part("17 group");
        FeedDesk desk = desk("c0g0;c1g03;c11g3;c5g3;");
        due("members", desk.group(0, 2), 2);
        due("members", desk.group(1, 2), 0);
        due("members", desk.group(3, 2), 3);
        desk.setGroup(3, 0, 12);
        desk.setGroup(3, 1, 1);
        due("master", desk.group(3, 0), 12);
        due("soloed", desk.group(3, 1), 1);
        due("not soloed", desk.group(2, 1), 0);
        desk.store(0);
        desk.recall(0, 5);
        due("not touched", desk.group(3, 3), 0);
        desk.setGroup(3, 0, 12);
        due("touched", desk.group(3, 3), 1);
        due("not touched", desk.group(0, 3), 0);
        for (int wrong : WRONG_NUMBERS) {
            due("group " + wrong, desk.group(wrong, 0), INVALID);
            due("what " + wrong, desk.group(0, wrong), INVALID);
        }
        due("group -1", desk.group(-1, 0), INVALID);
        due("group 4", desk.group(4, 0), INVALID);
        due("what -1", desk.group(0, -1), INVALID);
        due("what 4", desk.group(0, 4), INVALID);
    }

    private static void feed() {
        checks.part("18 feed");
        FeedDesk desk = desk("c0i1000f100;c1f100;c2f1;c11f100;x2:0=50,1=100,2=99,11=1,3=100;");
        due("reached by", desk.feed(2, 3), 1 | 2 | 1 << 11);
        desk.setOwner(2, 1, 1);
        desk.setOwner(2, 3, 1);
        due("owners", desk.feed(2, 0), 2 | 8);
        due("not by owners", desk.feed(2, 3), 1 | 1 << 11);
        due("without a return", desk.feed(2, 1), NONE);
        desk.setReturn(2, 0);
        due("return", desk.feed(2, 1), 0);
        desk.run(1);
        due("output", desk.feed(2, 2), 500);
        due("of another feed", desk.feed(3, 2), 0);
        for (int wrong : WRONG_NUMBERS) {
            due("feed " + wrong, desk.feed(wrong, 0), INVALID);
            due("what " + wrong, desk.feed(0, wrong), INVALID);
        }
        due("feed -1", desk.feed(-1, 0), INVALID);
        due("feed 4", desk.feed(4, 0), INVALID);
        due("what -1", desk.feed(0, -1), INVALID);
        due("what 4", desk.feed(0, 4), INVALID);
    }

    private static void send() {
        checks.part("19 send");
        FeedDesk desk = desk("c4f55g2;x1:4=33;");
        due("send", desk.send(1, 4, 0), 33);
        due("55 * 33 / 100", desk.send(1, 4, 1), 18);
        desk.setGroup(2, 0, 50);
        due("27 * 33 / 100", desk.send(1, 4, 1), 8);
        desk.setOwner(1, 4, 1);
        due("an owner does not go into it", desk.send(1, 4, 1), 0);
        due("its send stays", desk.send(1, 4, 0), 33);
        for (int wrong : WRONG_NUMBERS) {
            due("feed " + wrong, desk.send(wrong, 0, 0), INVALID);
            due("channel " + wrong, desk.send(0, wrong, 0), INVALID);
            due("what " + wrong, desk.send(0, 0, wrong), INVALID);
        }
        due("feed -1", desk.send(-1, 0, 0), INVALID);
        due("feed 4", desk.send(4, 0, 0), INVALID);
        due("channel -1", desk.send(0, -1, 0), INVALID);
        due("what -1", desk.send(0, 0, -1), INVALID);
        due("what 2", desk.send(0, 0, 2), INVALID);
    }

    private static void scene() {
        checks.part("20 scene");
        FeedDesk desk = new FeedDesk();
        for (int channel = 0; channel < 12; channel++) desk.setChannel(channel, 1, channel + 20);
        for (int group = 0; group < 4; group++) desk.setGroup(group, 0, group + 60);
        desk.setChannel(0, 2, 1);
        desk.setChannel(11, 2, 1);
        desk.store(5);
        for (int index = 0; index < 12; index++) due("fader", desk.scene(5, index), index + 20);
        for (int index = 12; index < 16; index++) due("master", desk.scene(5, index), index + 48);
        due("mutes", desk.scene(5, 16), 1 | 1 << 11);
        due("empty", desk.scene(4, 0), NONE);
        due("empty, and out of range", desk.scene(4, 17), INVALID);
        for (int wrong : WRONG_NUMBERS) {
            due("scene " + wrong, desk.scene(wrong, 0), INVALID);
            due("index " + wrong, desk.scene(5, wrong == 12 ? 17 : wrong), INVALID);
        }
        due("scene -1", desk.scene(-1, 0), INVALID);
        due("scene 6", desk.scene(6, 0), INVALID);
        due("index -1", desk.scene(5, -1), INVALID);
    }

    private static void why() {
        checks.part("21 why");
        FeedDesk desk = desk("c0f1;c1f1m;c2f1g1;c3g1;c4f1g01;c5s;c6f100g0s;");
        due("heard", desk.why(0), 0);
        due("muted", desk.why(1), 1);
        due("heard", desk.why(2), 0);
        due("its fader is 0", desk.why(3), 3);
        desk.setGroup(0, 0, 99);
        due("1 * 99 / 100", desk.why(4), 4);
        due("heard", desk.why(6), 0);
        desk.setGroup(1, 1, 1);
        due("others are soloed", desk.why(0), 2);
        due("muted comes first", desk.why(1), 1);
        due("its group is soloed", desk.why(2), 0);
        due("its group is soloed, the fader is 0", desk.why(3), 3);
        due("its group is soloed, a master makes it 0", desk.why(4), 4);
        due("safe, the fader is 0", desk.why(5), 3);
        due("safe", desk.why(6), 0);
        due("soloed comes ahead of the fader", desk.why(7), 2);
        desk.setGroup(0, 0, 0);
        due("master 0", desk.why(6), 4);
        for (int wrong : WRONG_NUMBERS) due("channel " + wrong, desk.why(wrong), INVALID);
        due("channel -1", desk.why(-1), INVALID);
    }

    /** Channel 0 comes to the feed 3 by the feeds 0, 1 and 2, over the channels 9, 5 and 7. */
    private static FeedDesk chain() {
        FeedDesk desk = desk("c0f100;c9f90;c5f80;c7f70;x0:0=99;x1:9=99;x2:5=99;x3:7=99;");
        desk.setReturn(0, 9);
        desk.setReturn(1, 5);
        desk.setReturn(2, 7);
        return desk;
    }

    /** A loop of all four feeds: from channel 0 by the feeds 3, 2, 1 and 0 over the channels 9, 5 and 7. */
    private static FeedDesk downward() {
        FeedDesk desk = desk("c0f100;c9f90;c5f80;c7f70;x3:0=99;x2:9=99;x1:5=99;x0:7=99;");
        desk.setReturn(3, 9);
        desk.setReturn(2, 5);
        desk.setReturn(1, 7);
        desk.setReturn(0, 0);
        return desk;
    }

    private static void path() {
        checks.part("22 path");
        FeedDesk desk = chain();
        int[] want = {4, 0, 9, 5, 7, NONE, NONE};
        for (int index = -1; index <= 5; index++) due("index " + index, desk.path(0, 3, index), want[index + 1]);
        due("far index", desk.path(0, 3, Integer.MAX_VALUE), NONE);
        due("shorter", desk.path(9, 3, -1), 3);
        due("one step", desk.path(0, 0, -1), 1);
        due("one step", desk.path(0, 0, 0), 0);
        due("no way back", desk.path(7, 0, -1), NONE);
        due("no path", desk.path(1, 3, 0), NONE);
        desk.setSend(1, 0, 1);
        due("a shorter one", desk.path(0, 3, -1), 3);
        due("a shorter one", desk.path(0, 3, 1), 5);
        desk.setReturn(3, 11);
        due("behind the end nothing counts", desk.path(0, 3, 3), NONE);

        // Two ways of the same length: by the channel 8 (feed 0) and by the channel 2 (feed 1).
        FeedDesk two = desk("c0f100;c8f100;c2f100;x0:0=100;x1:0=100;x2:8=100,2=100;");
        two.setReturn(0, 8);
        two.setReturn(1, 2);
        due("the smaller channel", two.path(0, 2, 1), 2);
        two.setSend(2, 2, 0);
        due("the only one", two.path(0, 2, 1), 8);
        int[] back = {4, 0, 9, 5, 7, NONE};
        for (int index = -1; index <= 4; index++) due("downward", downward().path(0, 0, index), back[index + 1]);
        due("over the channel 0", downward().path(7, 3, -1), 2);
        due("over the channel 0", downward().path(7, 3, 1), 0);

        FeedDesk zero = desk("c3f100;c0f100;c5f100;x0:3=100;x1:3=100;x2:0=100,5=100;");
        zero.setReturn(0, 0);
        zero.setReturn(1, 5);
        due("the channel 0 is the smallest", zero.path(3, 2, 1), 0);

        // Two ways by the same second channel, which differ at the third.
        FeedDesk deep = desk("c0f100;c8f100;c2f100;c4f100;x0:0=100;x1:8=100;x2:8=100;x3:2=100,4=100;");
        deep.setReturn(0, 8);
        deep.setReturn(1, 4);
        deep.setReturn(2, 2);
        due("length", deep.path(0, 3, -1), 3);
        due("second", deep.path(0, 3, 1), 8);
        due("third", deep.path(0, 3, 2), 2);
        for (int wrong : WRONG_NUMBERS) {
            due("channel " + wrong, desk.path(wrong, 0, -1), INVALID);
            due("feed " + wrong, desk.path(0, wrong, -1), INVALID);
        }
        due("channel -1", desk.path(-1, 0, 0), INVALID);
        due("feed -1", desk.path(0, -1, 0), INVALID);
        due("feed 4", desk.path(0, 4, 0), INVALID);
        due("index -2", desk.path(0, 0, -2), INVALID);
        due("index least", desk.path(1, 3, Integer.MIN_VALUE), INVALID);
    }

    private static void loudest() {
        checks.part("23 loudest");
        FeedDesk desk = chain();
        due("one step: 99", desk.loudest(0, 0), 99);
        due("99 * 89 / 100", desk.loudest(0, 1), 88);
        due("88 * 79 / 100", desk.loudest(0, 2), 69);
        due("69 * 69 / 100", desk.loudest(0, 3), 47);
        due("none", desk.loudest(7, 0), NONE);
        due("none", desk.loudest(1, 0), NONE);
        desk.setSend(3, 0, 46);
        due("the longer one is louder", desk.loudest(0, 3), 47);
        desk.setSend(3, 0, 48);
        due("the shorter one is louder", desk.loudest(0, 3), 48);
        due("69 * 69 / 100, downward", downward().loudest(0, 0), 47);
        due("over the channel 0: 69 * 99 / 100", downward().loudest(7, 3), 68);
        due("one step of the gain 1", desk("c0f1;x0:0=100;").loudest(0, 0), 1);
        FeedDesk soft = desk("c0f100;c1f100;x0:0=9;x1:1=9;");
        soft.setReturn(0, 1);
        due("a path with the gain 0", soft.loudest(0, 1), 0);
        due("a path all the same", soft.path(0, 1, -1), 2);
        FeedDesk loop = desk("c0f100;x0:0=100;x1:0=60;");
        loop.setReturn(0, 0);
        due("by the own return", loop.loudest(0, 1), 60);
        due("a loop", loop.loudest(0, 0), 100);
        for (int wrong : WRONG_NUMBERS) {
            due("channel " + wrong, desk.loudest(wrong, 0), INVALID);
            due("feed " + wrong, desk.loudest(0, wrong), INVALID);
        }
        due("channel -1", desk.loudest(-1, 0), INVALID);
        due("feed -1", desk.loudest(0, -1), INVALID);
        due("feed 4", desk.loudest(0, 4), INVALID);
    }

    private static void loops() {
        checks.part("24 loops");
        FeedDesk desk = chain();
        due("none", desk.loops(), 0);
        desk.setReturn(3, 0);
        due("all four", desk.loops(), 15);
        desk.setSend(2, 5, 0);
        due("broken", desk.loops(), 0);
        desk.setSend(1, 5, 1);
        due("0 * 1 / 100 is no way", desk.loops(), 0);
        desk.setSend(1, 5, 2);
        due("a loop by itself", desk.loops(), 2);
        FeedDesk down = downward();
        due("all four, downward", down.loops(), 15);
        down.setReturn(0, -1);
        due("open", down.loops(), 0);
        desk.setOwner(1, 5, 1);
        due("left out, since it owns the feed", desk.loops(), 0);
        desk.setOwner(1, 5, 0);
        desk.setReturn(1, -1);
        due("without a return", desk.loops(), 0);
    }

    private static void hearers() {
        checks.part("25 hearers");
        FeedDesk desk = chain();
        desk.setOwner(3, 0, 1);
        desk.setOwner(3, 9, 1);
        desk.setOwner(3, 7, 1);
        due("7 owned the last step", desk.hearers(3), 0);
        desk.setOwner(3, 7, 0);
        due("two of them", desk.hearers(3), 1 | 1 << 9);
        due("no owners", desk.hearers(0), 0);
        desk.setOwner(3, 11, 1);
        due("11 reaches nothing", desk.hearers(3), 1 | 1 << 9);
        desk.setSend(1, 9, 0);
        due("broken", desk.hearers(3), 0);
        FeedDesk down = downward();
        down.setOwner(0, 0, 1);
        due("by four feeds, downward", down.hearers(0), 1);
        for (int wrong : WRONG_NUMBERS) due("feed " + wrong, desk.hearers(wrong), INVALID);
        due("feed -1", desk.hearers(-1), INVALID);
        due("feed 4", desk.hearers(4), INVALID);
    }

    private static void outputIn() {
        checks.part("26 outputIn");
        FeedDesk desk = desk("c0i100f100;x1:0=100;");
        due("0 ticks", desk.outputIn(1, 0), 0);
        due("1 tick", desk.outputIn(1, 1), 100);
        due("100 ticks", desk.outputIn(1, 100), 100);
        due("nothing has changed", desk.count(0), 0);
        due("nothing has changed", desk.feed(1, 2), 0);
        due("no action", desk.count(9), 1);
        desk.store(0);
        desk.setChannel(0, 1, 0);
        desk.recall(0, 4);
        int[] fade = {0, 25, 50, 75, 100, 100};
        for (int ticks = 0; ticks < fade.length; ticks++) due("in the fade", desk.outputIn(1, ticks), fade[ticks]);
        due("the fade stands", desk.count(4), 0);
        outputInFades();
        desk.setReturn(1, 0);
        int[] loop = {0, 25, 62, 121, 221, 321};
        for (int ticks = 0; ticks < loop.length; ticks++) due("in the loop", desk.outputIn(1, ticks), loop[ticks]);
        for (int block = 0; block < 100; block++) desk.run(100);
        due("full", desk.run(1), FULL);
        due("beyond the limit of ticks", desk.outputIn(1, 100), 9999);
        for (int wrong : WRONG_NUMBERS) due("feed " + wrong, desk.outputIn(wrong, 1), INVALID);
        due("feed -1", desk.outputIn(-1, 1), INVALID);
        due("feed 4", desk.outputIn(4, 1), INVALID);
        due("ticks -1", desk.outputIn(0, -1), INVALID);
        due("ticks 101", desk.outputIn(0, 101), INVALID);
        due("ticks least", desk.outputIn(0, Integer.MIN_VALUE), INVALID);
    }

    private static void outputInFades() {
        FeedDesk desk = desk("c3i100f80;x2:3=100;");
        desk.store(4);
        desk.setChannel(3, 1, 20);
        desk.store(5);
        desk.setChannel(3, 1, 40);
        desk.recall(4, 4);
        desk.run(1);
        int[] up = {50, 60, 70, 80, 80};
        for (int ticks = 0; ticks < up.length; ticks++) due("to the scene 4", desk.outputIn(2, ticks), up[ticks]);
        desk.recall(5, 3);
        int[] down = {50, 40, 30, 20, 20};
        for (int ticks = 0; ticks < down.length; ticks++) due("to the scene 5", desk.outputIn(2, ticks), down[ticks]);
        desk.run(1);
        desk.undo();
        desk.undo();
        for (int ticks = 0; ticks < up.length; ticks++) due("undone", desk.outputIn(2, ticks), up[ticks]);
        desk.run(1);
        due("undone", desk.channel(3, 1), 60);
    }

    private static void cut() {
        checks.part("27 cut");
        FeedDesk desk = chain();
        due("no owner", desk.cut(3), ILLEGAL);
        desk.setOwner(3, 0, 1);
        due("the smallest number", desk.cut(3), 0);
        desk.setOwner(3, 9, 1);
        due("both go by the feed 1", desk.cut(3), 109);
        desk.setSend(2, 9, 99);
        due("two ways up to the feed 2", desk.cut(3), 307);
        desk.setSend(3, 5, 99);
        due("none alone", desk.cut(3), NONE);
        due("changes nothing", desk.send(0, 0, 0), 99);
        due("changes nothing", desk.hearers(3), 1 | 1 << 9);
        desk.setSend(0, 0, 0);
        desk.setOwner(3, 9, 0);
        due("nobody hears itself", desk.cut(3), ILLEGAL);
        for (int wrong : WRONG_NUMBERS) due("feed " + wrong, desk.cut(wrong), INVALID);
        due("feed -1", desk.cut(-1), INVALID);
        due("feed 4", desk.cut(4), INVALID);
    }

    // ---- what all promises share

    private static void errorsChangeNothing() {
        checks.part("errors");
        Consumer<FeedDesk> setUp = Desks::busy;
        unchangedBy("setChannel", setUp, desk -> desk.setChannel(0, 0, 1001));
        unchangedBy("setGroup", setUp, desk -> desk.setGroup(0, 0, 101));
        unchangedBy("setSend", setUp, desk -> desk.setSend(0, 0, 101));
        unchangedBy("setOwner", setUp, desk -> desk.setOwner(0, 12, 1));
        unchangedBy("setReturn", setUp, desk -> desk.setReturn(1, 3));
        unchangedBy("store", setUp, desk -> desk.store(6));
        unchangedBy("recall", setUp, desk -> desk.recall(0, 0));
        unchangedBy("recall", setUp, desk -> desk.recall(2, 101));
        unchangedBy("run", setUp, desk -> desk.run(0));
        unchangedBy("append", setUp, desk -> desk.append(0));
        unchangedBy("load", setUp, desk -> desk.load());
        unchangedBy("undo", desk -> { }, desk -> desk.undo());
    }

    private static void looksChangeNothing() {
        checks.part("looks");
        unchangedBy("paths and what would be", Desks::busy, desk -> {
            for (int feed = 0; feed < 4; feed++) {
                desk.outputIn(feed, 7);
                desk.cut(feed);
                desk.hearers(feed);
                for (int channel = 0; channel < 3; channel++) {
                    desk.path(channel, feed, -1);
                    desk.loudest(channel, feed);
                }
            }
            desk.loops();
            desk.why(0);
        });
    }
}
