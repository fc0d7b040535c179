/** The edges that the document names for scenes, fades and what would be: each sentence has a test of its own. */
public final class FadeEdgeTest {
    private static final int ILLEGAL = -2;
    private static final int NONE = -99;
    private static final Checks checks = new Checks();

    private FadeEdgeTest() {
    }

    public static void main(String[] arguments) {
        scenesEmptyAndFull();
        sceneKeeps();
        recallCounts();
        recallAtOnce();
        fadeSteps();
        fadeTowardZero();
        mutesInTheMiddle();
        fadeIsOver();
        fadeInPlace();
        undoWithinAFade();
        undoOfFadingMasters();
        touchedAhead();
        touchedByWhat();
        touchedGroups();
        touchedMutes();
        touchedOnesKeepWhatTheyHave();
        touchedTwice();
        touchedAll();
        touchedOnlyInThisFade();
        ahead();
        aheadOfTheLimit();
        aheadOverTheEndOfAFade();
        checks.finish();
    }

    private static void part(String sentence) {
        checks.part(sentence);
    }

    private static void due(String call, int got, int want) {
        checks.due(call, got, want);
    }

    private static FeedDesk desk(String patch) {
        return Desks.loaded(patch);
    }

    private static void load(FeedDesk desk, String patch) {
        checks.holds("a patch that is right: " + patch, Desks.type(desk, patch).load() >= 0);
    }

    // ---- scenes

    private static void scenesEmptyAndFull() {
        part("There are 6 scenes, empty at first; the number of scenes that are not empty then");
        FeedDesk desk = new FeedDesk();
        due("none", desk.count(6), 0);
        int[] order = {5, 0, 3, 1, 4, 2};
        for (int index = 0; index < 6; index++) {
            due("empty", desk.scene(order[index], 0), NONE);
            due("recall of an empty one", desk.recall(order[index], 0), ILLEGAL);
            due("one more", desk.store(order[index]), index + 1);
            due("count", desk.count(6), index + 1);
            due("not empty", desk.scene(order[index], 12), 100);
        }
        for (int scene = 0; scene < 6; scene++) due("in place of what it keeps", desk.store(scene), 6);
        for (int left = 4; left >= 0; left--) desk.undo();
        due("still full", desk.count(6), 6);
        FeedDesk first = new FeedDesk();
        first.store(5);
        due("undone", first.undo(), 0);
        due("empty again", first.scene(5, 0), NONE);
        due("none", first.count(6), 0);
    }

    private static void sceneKeeps() {
        part("A scene keeps the faders and mutes of all channels and the masters of all groups");
        FeedDesk desk = new FeedDesk();
        desk.store(0);
        for (int channel = 0; channel < 12; channel++) {
            desk.setChannel(channel, 1, 100);
            desk.setChannel(channel, 2, 1);
        }
        for (int group = 0; group < 4; group++) desk.setGroup(group, 0, 0);
        desk.store(5);
        for (int index = 0; index < 12; index++) {
            due("least fader", desk.scene(0, index), 0);
            due("greatest fader", desk.scene(5, index), 100);
        }
        for (int index = 12; index < 16; index++) {
            due("greatest master", desk.scene(0, index), 100);
            due("least master", desk.scene(5, index), 0);
        }
        due("none is muted", desk.scene(0, 16), 0);
        due("all are muted", desk.scene(5, 16), 4095);
        desk.recall(0, 0);
        due("none is muted", desk.channel(11, 2), 0);
        desk.recall(5, 0);
        due("all are muted", desk.channel(0, 2), 1);
        due("master", desk.group(3, 0), 0);
    }

    private static void recallCounts() {
        part("the number of faders and masters that were not as in the scene ahead of the call");
        FeedDesk desk = new FeedDesk();
        desk.store(0);
        due("none", desk.recall(0, 0), 0);
        for (int index = 0; index < 12; index++) {
            desk.setChannel(index, 1, 1);
            desk.setChannel(index, 2, 1);
            desk.setChannel(index, 0, 9);
            due("faders alone, over 100 ticks", desk.recall(0, 100), index + 1);
        }
        for (int index = 0; index < 4; index++) {
            desk.setGroup(index, 0, 99);
            desk.setGroup(index, 1, 1);
            due("and masters", desk.recall(0, 50), index + 13);
        }
        due("all sixteen", desk.recall(0, 0), 16);
        due("none any more", desk.recall(0, 0), 0);
        due("inputs are not kept", desk.channel(11, 0), 9);
        due("nor what is soloed", desk.count(7), 15);
    }

    private static void recallAtOnce() {
        part("with n 0 all becomes that of the scene at once (and no fade is going on)");
        FeedDesk desk = desk("c0f100;c1f50m;");
        desk.setGroup(3, 0, 7);
        desk.store(4);
        load(desk, "c0f0m;");
        desk.setChannel(1, 2, 0);
        desk.setChannel(1, 1, 51);
        desk.setGroup(3, 0, 100);
        desk.recall(4, 10);
        desk.run(3);
        desk.setChannel(0, 1, 3);
        desk.setGroup(3, 0, 5);
        due("touched ones are not as in the scene, too", desk.recall(4, 0), 3);
        due("a touched fader", desk.channel(0, 1), 100);
        due("a touched mute", desk.channel(0, 2), 0);
        due("fader", desk.channel(1, 1), 50);
        due("mute", desk.channel(1, 2), 1);
        due("a touched master", desk.group(3, 0), 7);
        due("no fade", desk.count(4), NONE);
        due("no fade", desk.count(5), NONE);
        due("nothing is touched", desk.channel(0, 7), 0);
        due("nothing is touched", desk.group(3, 3), 0);
        due("no tick is made", desk.count(0), 3);
    }

    // ---- fades

    private static final int[] LENGTHS = {1, 2, 3, 4, 5, 7, 50, 99, 100};

    /** A fade of the channel 0 and the group 0 between two values, and of all else between 0 and 0. */
    private static FeedDesk fading(int from, int to, int ticks) {
        FeedDesk desk = new FeedDesk();
        desk.setChannel(0, 1, to);
        desk.setGroup(0, 0, to);
        desk.store(3);
        desk.setChannel(0, 1, from);
        desk.setGroup(0, 0, from);
        desk.recall(3, ticks);
        return desk;
    }

    private static void fadeSteps() {
        part("In step k of a fade, from 1 to n, each becomes a + (b - a) * k // n");
        int[][] ways = {{0, 100}, {100, 0}, {0, 1}, {1, 0}, {0, 0}, {100, 100}, {33, 67}, {67, 33}, {99, 100}, {100, 99}};
        for (int ticks : LENGTHS) {
            for (int[] way : ways) {
                FeedDesk desk = fading(way[0], way[1], ticks);
                due("not before the first step", desk.channel(0, 1), way[0]);
                for (int step = 1; step <= ticks; step++) {
                    desk.run(1);
                    int whole = Math.abs(way[1] - way[0]) * step / ticks;
                    int want = way[1] >= way[0] ? way[0] + whole : way[0] - whole;
                    due("fader in step " + step + " of " + ticks, desk.channel(0, 1), want);
                    due("master in step " + step + " of " + ticks, desk.group(0, 0), want);
                }
                due("at the end", desk.channel(0, 1), way[1]);
                due("others stay", desk.channel(1, 1), 0);
                due("others stay", desk.group(1, 0), 100);
            }
        }
    }

    private static void fadeTowardZero() {
        part("\"//\" is the division rounded toward 0");
        FeedDesk down = fading(100, 99, 100);
        down.run(99);
        due("100 + -99 // 100", down.channel(0, 1), 100);
        due("and the master", down.group(0, 0), 100);
        down.run(1);
        due("100 + -100 // 100", down.channel(0, 1), 99);
        FeedDesk up = fading(99, 100, 100);
        up.run(99);
        due("99 + 99 // 100", up.channel(0, 1), 99);
        up.run(1);
        due("99 + 100 // 100", up.channel(0, 1), 100);
        FeedDesk three = fading(1, 0, 3);
        int[] want = {1, 1, 0};
        for (int step = 0; step < 3; step++) {
            three.run(1);
            due("step " + (step + 1) + " of 3", three.channel(0, 1), want[step]);
        }
    }

    private static void mutesInTheMiddle() {
        part("in the step k with 2 * k equal to n or n + 1, the mutes become those of the scene");
        for (int ticks : LENGTHS) {
            FeedDesk desk = desk("c0m;c11m;");
            desk.store(0);
            desk.setChannel(0, 2, 0);
            desk.setChannel(11, 2, 0);
            desk.setChannel(5, 2, 1);
            desk.recall(0, ticks);
            due("not at once", desk.channel(0, 2), 0);
            for (int step = 1; step <= ticks; step++) {
                desk.run(1);
                boolean is = 2 * step >= ticks;
                due("muted in step " + step + " of " + ticks, desk.channel(0, 2), is ? 1 : 0);
                due("muted in step " + step + " of " + ticks, desk.channel(11, 2), is ? 1 : 0);
                due("no more muted in step " + step + " of " + ticks, desk.channel(5, 2), is ? 0 : 1);
            }
        }
    }

    private static void fadeIsOver() {
        part("Behind step n the fade is over");
        for (int ticks : LENGTHS) {
            FeedDesk desk = fading(0, 100, ticks);
            for (int step = 0; step < ticks; step++) {
                due("the step, 0 ahead of the first one", desk.count(4), step);
                due("the ticks of this fade", desk.count(5), ticks);
                desk.run(1);
            }
            due("no step", desk.count(4), NONE);
            due("no ticks", desk.count(5), NONE);
            desk.setChannel(0, 1, 9);
            due("not touched without a fade", desk.channel(0, 7), 0);
            desk.setGroup(0, 0, 9);
            due("not touched without a fade", desk.group(0, 3), 0);
            desk.run(1);
            due("it stays then", desk.channel(0, 1), 9);
            due("it stays then", desk.group(0, 0), 9);
        }
        FeedDesk beyond = fading(0, 100, 3);
        beyond.run(100);
        due("a run over the end of the fade", beyond.channel(0, 1), 100);
        due("over", beyond.count(4), NONE);
    }

    private static void fadeInPlace() {
        part("begins a fade, in place of one that is going on");
        FeedDesk desk = fading(0, 100, 4);
        desk.setChannel(1, 1, 50);
        desk.store(0);
        desk.run(2);
        due("halfway", desk.channel(0, 1), 50);
        due("one differs from the scene 0, and a master", desk.recall(0, 5), 2);
        due("from the start", desk.count(4), 0);
        due("with its ticks", desk.count(5), 5);
        int[] want = {40, 30, 20, 10, 0, 0};
        for (int step = 0; step < want.length; step++) {
            desk.run(1);
            due("from where it stood", desk.channel(0, 1), want[step]);
        }
        FeedDesk same = fading(0, 100, 2);
        same.run(1);
        due("the same scene again", same.recall(3, 2), 2);
        same.run(1);
        due("50 + 50 * 1 // 2", same.channel(0, 1), 75);
        same.run(1);
        due("50 + 50 * 2 // 2", same.channel(0, 1), 100);
    }

    private static void undoWithinAFade() {
        part("undo() restores the latest state, with the fade that was going on");
        FeedDesk desk = fading(0, 100, 4);
        desk.store(0);
        desk.run(1);
        desk.recall(0, 5);
        desk.run(2);
        due("25 + -25 * 2 // 5", desk.channel(0, 1), 15);
        desk.undo();
        due("the second fade again, ahead of its first step", desk.count(4), 0);
        due("its ticks", desk.count(5), 5);
        due("what it would be", desk.channel(0, 1), 25);
        desk.undo();
        due("the first fade again, behind its first step", desk.count(4), 1);
        due("its ticks", desk.count(5), 4);
        int[] want = {50, 75, 100, 100};
        for (int step = 0; step < want.length; step++) {
            desk.run(1);
            due("it goes on to its scene, from where it began", desk.channel(0, 1), want[step]);
        }
        FeedDesk over = fading(0, 100, 3);
        over.run(2);
        over.run(1);
        due("over", over.count(4), NONE);
        over.undo();
        due("its last step is ahead again", over.count(4), 2);
        due("where it was", over.channel(0, 1), 66);
        over.undo();
        due("its first step is ahead again", over.count(4), 0);
        over.undo();
        due("no fade yet", over.count(4), NONE);
        over.run(1);
        due("nothing moves", over.channel(0, 1), 0);
    }

    private static void undoOfFadingMasters() {
        part("a is what it was when the fade began, for a master that undo() brings back, too");
        FeedDesk desk = new FeedDesk();
        for (int group = 0; group < 4; group++) desk.setGroup(group, 0, 10 * group);
        desk.store(0);
        for (int group = 0; group < 4; group++) desk.setGroup(group, 0, 100 - 10 * group);
        desk.recall(0, 10);
        desk.run(5);
        for (int group = 0; group < 4; group++) desk.setGroup(group, 0, 77);
        desk.recall(0, 10);
        for (int left = 5; left > 0; left--) desk.undo();
        due("behind the fifth step", desk.count(4), 5);
        desk.run(2);
        int[] want = {30, 34, 38, 42};
        for (int group = 0; group < 4; group++) due("in step 7 of 10", desk.group(group, 0), want[group]);
        desk.run(3);
        for (int group = 0; group < 4; group++) due("at the end", desk.group(group, 0), 10 * group);
    }

    private static void touchedAhead() {
        part("A channel whose fader or mute is set by hand while a fade is going on is touched");
        for (int steps = 0; steps <= 5; steps++) {
            FeedDesk desk = fading(0, 100, 5);
            if (steps > 0) desk.run(steps);
            desk.setChannel(0, 1, 1);
            due("behind " + steps + " steps of 5", desk.channel(0, 7), steps < 5 ? 1 : 0);
            desk.run(1);
            due("it does not follow any more", desk.channel(0, 1), 1);
            due("the master does", desk.group(0, 0), Math.min(20 * steps + 20, 100));
        }
    }

    private static void touchedByWhat() {
        part("fader or mute, set by hand, in a patch as well");
        String[] patches = {"c0f0;", "c0m;", "c0i5;", "c0g0;", "c0s;", "x0:0=5;", "c1f0;", " ", "c0i5g0sm;"};
        int[] touched = {1, 1, 0, 0, 0, 0, 0, 0, 1};
        for (int index = 0; index < patches.length; index++) {
            FeedDesk desk = fading(0, 100, 5);
            load(desk, patches[index]);
            due("by the patch " + patches[index], desk.channel(0, 7), touched[index]);
        }
        int[] byHand = {0, 1, 1, 0, 0};
        for (int what = 0; what <= 4; what++) {
            FeedDesk desk = fading(0, 100, 5);
            due("to what it is", desk.setChannel(0, what, 0), 0);
            due("by the property " + what, desk.channel(0, 7), byHand[what]);
            due("not another one", desk.channel(1, 7), 0);
            due("not a group", desk.group(0, 3), 0);
        }
    }

    private static void touchedGroups() {
        part("A group whose master is set by hand is touched likewise");
        for (int group = 0; group < 4; group++) {
            FeedDesk desk = fading(0, 100, 5);
            desk.setGroup(group, 1, 1);
            due("not by solo", desk.group(group, 3), 0);
            desk.setGroup(group, 0, desk.group(group, 0));
            for (int other = 0; other < 4; other++) due("touched", desk.group(other, 3), other == group ? 1 : 0);
            for (int channel = 0; channel < 12; channel++) due("no channel", desk.channel(channel, 7), 0);
            desk.run(5);
            due("it does not follow", desk.group(0, 0), group == 0 ? 0 : 100);
            due("the fader does", desk.channel(0, 1), 100);
        }
    }

    private static void touchedMutes() {
        part("its fader and its mute do not follow the fade any more");
        FeedDesk desk = desk("c0f100m;c1f100m;c2f100m;");
        desk.store(1);
        for (int channel = 0; channel < 3; channel++) {
            desk.setChannel(channel, 1, 0);
            desk.setChannel(channel, 2, 0);
        }
        desk.recall(1, 2);
        desk.setChannel(0, 2, 0);
        desk.setChannel(1, 1, 0);
        desk.run(1);
        int[] mutes = {0, 0, 1};
        int[] faders = {0, 0, 50};
        for (int channel = 0; channel < 3; channel++) {
            due("mute " + channel, desk.channel(channel, 2), mutes[channel]);
            due("fader " + channel, desk.channel(channel, 1), faders[channel]);
        }
        desk.setChannel(2, 2, 0);
        desk.run(1);
        due("touched behind the middle: the mute stays", desk.channel(2, 2), 0);
        due("touched behind the middle: the fader stays", desk.channel(2, 1), 50);
    }

    private static void touchedOnesKeepWhatTheyHave() {
        part("a channel that is touched keeps its mute, muted or not, safe or not");
        FeedDesk desk = desk("c1m;c3m;c5ms;c7ms;");
        desk.store(1);
        for (int channel = 0; channel < 8; channel++) desk.setChannel(channel, 2, 1 - channel % 2);
        desk.setChannel(4, 3, 1);
        desk.setChannel(6, 3, 1);
        desk.recall(1, 2);
        for (int channel : new int[] {0, 3, 4, 7}) desk.setChannel(channel, 1, 50);
        desk.run(1);
        int[] mutes = {1, 1, 0, 0, 1, 1, 0, 0};
        for (int channel = 0; channel < 8; channel++) due("mute " + channel, desk.channel(channel, 2), mutes[channel]);
        desk.run(1);
        for (int channel = 0; channel < 8; channel++) due("mute " + channel, desk.channel(channel, 2), mutes[channel]);
    }

    private static void touchedTwice() {
        part("set by hand more than once, it is still touched");
        FeedDesk desk = fading(0, 100, 10);
        for (int times = 1; times <= 4; times++) {
            desk.setChannel(0, times % 2 + 1, 0);
            due("the channel, " + times + " times", desk.channel(0, 7), 1);
            desk.setGroup(0, 0, times);
            due("the group, " + times + " times", desk.group(0, 3), 1);
            desk.run(1);
            due("fader", desk.channel(0, 1), 0);
            due("master", desk.group(0, 0), times);
        }
        load(desk, "c0f5m;c0f6m;");
        due("in a patch", desk.channel(0, 7), 1);
        desk.run(6);
        due("fader", desk.channel(0, 1), 6);
        due("mute", desk.channel(0, 2), 1);
    }

    private static void touchedAll() {
        part("when all are touched, nothing follows");
        FeedDesk desk = new FeedDesk();
        desk.store(0);
        for (int channel = 0; channel < 12; channel++) desk.setChannel(channel, 1, 100);
        for (int group = 0; group < 4; group++) desk.setGroup(group, 0, 0);
        desk.recall(0, 2);
        for (int channel = 0; channel < 12; channel++) desk.setChannel(channel, 1, 50 + channel);
        for (int group = 0; group < 4; group++) desk.setGroup(group, 0, 50 + group);
        desk.run(1);
        due("the fade goes on all the same", desk.count(4), 1);
        desk.run(1);
        due("and comes to its end", desk.count(4), NONE);
        for (int channel = 0; channel < 12; channel++) due("fader", desk.channel(channel, 1), 50 + channel);
        for (int group = 0; group < 4; group++) due("master", desk.group(group, 0), 50 + group);
    }

    private static void touchedOnlyInThisFade() {
        part("1 if it is touched in the fade that is going on and 0 if not");
        FeedDesk desk = fading(0, 100, 4);
        desk.setChannel(0, 1, 0);
        desk.setGroup(0, 0, 0);
        due("touched", desk.channel(0, 7), 1);
        due("touched", desk.group(0, 3), 1);
        desk.recall(3, 4);
        due("not in the new fade", desk.channel(0, 7), 0);
        due("not in the new fade", desk.group(0, 3), 0);
        desk.run(4);
        due("it followed the new one", desk.channel(0, 1), 100);
        due("it followed the new one", desk.group(0, 0), 100);
        FeedDesk over = fading(0, 100, 1);
        over.setChannel(0, 1, 0);
        over.setGroup(0, 0, 0);
        over.run(1);
        due("the fade is over", over.channel(0, 7), 0);
        due("the fade is over", over.group(0, 3), 0);
        over.undo();
        due("undone", over.channel(0, 7), 1);
        due("undone", over.group(0, 3), 1);
        over.undo();
        over.undo();
        due("undone", over.channel(0, 7), 0);
        due("undone", over.group(0, 3), 0);
    }

    // ---- what would be

    private static void ahead() {
        part("what the output of a feed would be behind some ticks");
        FeedDesk desk = desk("c0i10f100;x0:0=100;x3:0=50;");
        desk.setReturn(0, 0);
        due("behind no tick it is what it is", desk.outputIn(0, 0), 0);
        desk.run(3);
        due("behind no tick it is what it is", desk.outputIn(0, 0), 30);
        due("the last feed", desk.outputIn(3, 0), 15);
        int[] outputs = new int[101];
        for (int ticks = 0; ticks <= 100; ticks++) outputs[ticks] = desk.outputIn(0, ticks);
        due("nothing is changed", desk.count(0), 3);
        due("nothing is changed", desk.feed(0, 2), 30);
        for (int ticks = 1; ticks <= 100; ticks++) {
            desk.run(1);
            due("behind " + ticks + " ticks", desk.feed(0, 2), outputs[ticks]);
        }
    }

    private static void aheadOfTheLimit() {
        part("the limit of 10000 ticks does not matter");
        FeedDesk desk = desk("c0i1f100;x0:0=100;");
        desk.setReturn(0, 0);
        for (int block = 0; block < 99; block++) desk.run(100);
        desk.run(99);
        due("the signal is full", desk.feed(0, 2), 9999);
        desk.setReturn(0, -1);
        for (int ticks = 1; ticks <= 100; ticks++) due("behind 9999 ticks", desk.outputIn(0, ticks), 1);
        desk.run(1);
        desk.setChannel(0, 0, 7);
        due("at the limit", desk.run(1), -3);
        for (int ticks = 1; ticks <= 100; ticks++) due("behind 10000 ticks", desk.outputIn(0, ticks), 7);
        due("0 ticks", desk.outputIn(0, 0), 1);
    }

    private static void aheadOverTheEndOfAFade() {
        part("a fade going on as it does");
        FeedDesk desk = desk("c0i1000f100;x0:0=100;");
        desk.store(0);
        desk.setChannel(0, 1, 0);
        desk.recall(0, 10);
        for (int ticks = 0; ticks <= 15; ticks++) due(ticks + " ticks", desk.outputIn(0, ticks), 100 * Math.min(ticks, 10));
        due("far behind its end", desk.outputIn(0, 100), 1000);
        due("the fade stands where it did", desk.count(4), 0);
        desk.run(9);
        due("its last step", desk.outputIn(0, 1), 1000);
        due("behind it", desk.outputIn(0, 2), 1000);
        desk.setChannel(0, 1, 33);
        due("touched, it does not follow", desk.outputIn(0, 1), 330);
        due("touched, it does not follow", desk.outputIn(0, 100), 330);
    }
}
