/**
 * The edges that the document names for channels, groups, feeds, ticks, the history and calls: each sentence has a test
 * of its own, which bears its words. RangeTest, PathEdgeTest, FadeEdgeTest and TextEdgeTest have those of the rest.
 */
public final class EdgeTest {
    private static final int ILLEGAL = -2;
    private static final int NONE = -99;
    private static final Checks checks = new Checks();

    private EdgeTest() {
    }

    public static void main(String[] arguments) {
        atFirst();
        placesOfTheirOwn();
        previousValues();
        mutedIsSilent();
        soloedAway();
        levelIsTheFader();
        mastersRoundDown();
        mastersByAscendingNumbers();
        audible();
        ownersDoNotGoIn();
        numbersOfOwners();
        gainsRoundDown();
        oneFeedIntoAChannel();
        signalIsCutOff();
        signalOfTheTickBefore();
        outputIsCutOff();
        eachRoundedDown();
        gainsAreOfLevels();
        clipsOfAllFeeds();
        mainSumIsNotCutOff();
        peakIfGreater();
        resetOfNothing();
        mainSumThen();
        runOfManyIsOneAction();
        undoOfClips();
        undoOfSumAndPeak();
        whyInOrder();
        historyOfFive();
        everyActionOnce();
        undoOfText();
        manyCalls();
        checks.finish();
    }

    private static void part(String sentence) {
        checks.part(sentence);
    }

    private static void due(String call, int got, int want) {
        checks.due(call, got, want);
    }

    private static FeedDesk desk(String patch) {
        return Desks.loaded(patch);
    }

    private static void load(FeedDesk desk, String patch) {
        checks.holds("a patch that is right: " + patch, Desks.type(desk, patch).load() >= 0);
    }

    // ---- a new desk

    private static void atFirst() {
        part("at first");
        FeedDesk desk = new FeedDesk();
        for (int channel = 0; channel < 12; channel++) {
            for (int what = 0; what <= 7; what++) due("channel " + channel + " what " + what, desk.channel(channel, what), 0);
            due("no feed comes back", desk.channel(channel, 8), NONE);
            due("why", desk.why(channel), 3);
            for (int feed = 0; feed < 4; feed++) due("send", desk.send(feed, channel, 0), 0);
        }
        for (int group = 0; group < 4; group++) {
            due("master", desk.group(group, 0), 100);
            due("soloed", desk.group(group, 1), 0);
        }
        for (int feed = 0; feed < 4; feed++) {
            due("owners", desk.feed(feed, 0), 0);
            due("return", desk.feed(feed, 1), NONE);
            due("output", desk.feed(feed, 2), 0);
        }
        for (int scene = 0; scene < 6; scene++) {
            for (int index = 0; index <= 16; index++) due("scene " + scene, desk.scene(scene, index), NONE);
        }
        due("history", desk.count(9), 0);
        due("text", desk.count(10), 0);
        due("clearText of the empty text", desk.clearText(), 0);
        due("main sum of a new desk", desk.run(1), 0);
    }

    /** What is set at one place is not seen at another. */
    private static void placesOfTheirOwn() {
        part("12 channels, 4 groups, 4 feeds, numbered from 0");
        FeedDesk desk = new FeedDesk();
        for (int channel = 0; channel < 12; channel++) {
            desk.setChannel(channel, 0, 989 + channel);
            desk.setChannel(channel, 1, 89 + channel);
            desk.setChannel(channel, 2, channel & 1);
            desk.setChannel(channel, 3, channel >> 1 & 1);
            desk.setChannel(channel, 4, channel + 4);
            for (int feed = 0; feed < 4; feed++) desk.setSend(feed, channel, 12 * feed + channel);
        }
        for (int group = 0; group < 4; group++) {
            desk.setGroup(group, 0, 97 + group);
            desk.setGroup(group, 1, group & 1);
            desk.setReturn(group, 11 - group);
            for (int channel = group; channel < 12; channel++) due("owners", desk.setOwner(group, channel, 1), channel - group + 1);
        }
        for (int channel = 0; channel < 12; channel++) {
            int[] want = {989 + channel, 89 + channel, channel & 1, channel >> 1 & 1, channel + 4};
            for (int what = 0; what <= 4; what++) due("channel " + channel, desk.channel(channel, what), want[what]);
            for (int feed = 0; feed < 4; feed++) due("send", desk.send(feed, channel, 0), 12 * feed + channel);
            due("feed that comes back", desk.channel(channel, 8), channel < 8 ? NONE : 11 - channel);
        }
        for (int group = 0; group < 4; group++) {
            due("master", desk.group(group, 0), 97 + group);
            due("soloed", desk.group(group, 1), group & 1);
            due("members", desk.group(group, 2), new int[] {6, 6, 8, 8}[group]);
            due("return", desk.feed(group, 1), 11 - group);
            due("owners", desk.feed(group, 0), 0xFFF & -1 << group);
        }
    }

    private static void previousValues() {
        part("Returns the previous value");
        FeedDesk desk = new FeedDesk();
        int[] most = {1000, 100, 1, 1, 15};
        for (int what = 0; what <= 4; what++) {
            due("the least", desk.setChannel(11, what, most[what]), 0);
            due("the greatest", desk.setChannel(11, what, most[what]), most[what]);
            due("the greatest", desk.setChannel(11, what, 0), most[what]);
            due("the least", desk.setChannel(11, what, 0), 0);
        }
        int[] first = {100, 0};
        for (int what = 0; what <= 1; what++) {
            due("at first", desk.setGroup(3, what, 0), first[what]);
            due("the least", desk.setGroup(3, what, 1), 0);
            due("then", desk.setGroup(3, what, first[what]), 1);
        }
        due("the least send", desk.setSend(3, 11, 100), 0);
        due("the greatest send", desk.setSend(3, 11, 0), 100);
        due("no return", desk.setReturn(3, 0), -1);
        due("the least return", desk.setReturn(3, 11), 0);
        due("the greatest return", desk.setReturn(3, -1), 11);
        due("no return", desk.setReturn(3, -1), -1);
    }

    // ---- levels

    private static void mutedIsSilent() {
        part("The level of a channel is 0 if it is muted");
        FeedDesk desk = desk("c0f100m;c11f1g0123ms;");
        due("level", desk.channel(0, 5), 0);
        due("level", desk.channel(11, 5), 0);
        desk.setGroup(3, 1, 1);
        due("safe, and of a group that is soloed", desk.channel(11, 5), 0);
        desk.setChannel(11, 2, 0);
        due("not muted any more", desk.channel(11, 5), 1);
    }

    private static void soloedAway() {
        part("it is 0, too, if some group is soloed, the channel is not safe, and it belongs to no group that is soloed");
        FeedDesk desk = desk("c0f100;c1f100g0;c2f100g3;c3f100g12;c4f100s;c5f100g3s;");
        for (int soloed = 0; soloed < 16; soloed++) {
            for (int group = 0; group < 4; group++) desk.setGroup(group, 1, soloed >> group & 1);
            due("soloed", desk.count(7), soloed);
            int[] groups = {0, 1, 8, 6, 0, 8};
            for (int channel = 0; channel < 6; channel++) {
                boolean stays = soloed == 0 || channel >= 4 || (groups[channel] & soloed) != 0;
                due("channel " + channel + ", soloed " + soloed, desk.channel(channel, 5), stays ? 100 : 0);
                due("why " + channel + ", soloed " + soloed, desk.why(channel), stays ? 0 : 2);
            }
        }
    }

    private static void levelIsTheFader() {
        part("Otherwise it is its fader");
        FeedDesk desk = new FeedDesk();
        for (int fader = 0; fader <= 100; fader++) {
            desk.setChannel(0, 1, fader);
            due("level", desk.channel(0, 5), fader);
        }
        for (int group = 0; group < 4; group++) desk.setGroup(group, 0, 0);
        due("masters of groups to which it does not belong", desk.channel(0, 5), 100);
    }

    private static void mastersRoundDown() {
        part("for each of its groups it becomes level * (master of the group) / 100");
        int[][] table = {{100, 100, 100}, {100, 0, 0}, {100, 1, 1}, {1, 100, 1}, {1, 99, 0}, {99, 1, 0}, {50, 2, 1}, {49, 2, 0},
            {99, 99, 98}, {0, 100, 0}};
        for (int group = 0; group < 4; group++) {
            FeedDesk desk = desk("c7g" + group + ";");
            for (int[] row : table) {
                desk.setChannel(7, 1, row[0]);
                desk.setGroup(group, 0, row[1]);
                due(row[0] + " * " + row[1] + " / 100", desk.channel(7, 5), row[2]);
            }
        }
        FeedDesk all = desk("c0f100g0123;");
        for (int group = 0; group < 4; group++) all.setGroup(group, 0, 99);
        due("four times, each rounded down", all.channel(0, 5), 96);
    }

    private static void mastersByAscendingNumbers() {
        part("by ascending numbers");
        for (int first = 0; first < 4; first++) {
            for (int second = first + 1; second < 4; second++) {
                FeedDesk desk = desk("c0f99g" + second + first + ";");
                desk.setGroup(first, 0, 50);
                desk.setGroup(second, 0, 67);
                due("99 * 50 / 100 = 49, 49 * 67 / 100", desk.channel(0, 5), 32);
                desk.setGroup(first, 0, 67);
                desk.setGroup(second, 0, 50);
                due("99 * 67 / 100 = 66, 66 * 50 / 100", desk.channel(0, 5), 33);
            }
        }
    }

    private static void audible() {
        part("the channels with a level greater than 0");
        FeedDesk desk = new FeedDesk();
        due("none", desk.count(8), 0);
        for (int channel = 0; channel < 12; channel++) desk.setChannel(channel, 1, 1);
        due("all twelve, with the level 1", desk.count(8), 4095);
        desk.setChannel(11, 1, 0);
        desk.setChannel(0, 2, 1);
        due("without 0 and 11", desk.count(8), 2046);
        for (int group = 0; group < 4; group++) due("members", desk.group(group, 2), 0);
        for (int channel = 0; channel < 12; channel++) desk.setChannel(channel, 4, 8);
        due("all are members", desk.group(3, 2), 12);
        desk.setGroup(3, 0, 99);
        due("1 * 99 / 100 is 0", desk.count(8), 0);
    }

    // ---- feeds

    private static void ownersDoNotGoIn() {
        part("A channel goes into a feed if it is no owner of it");
        FeedDesk desk = desk("c0f100;x0:0=100;x1:0=100;");
        desk.setOwner(0, 0, 1);
        due("gain of an owner", desk.send(0, 0, 1), 0);
        due("its send", desk.send(0, 0, 0), 100);
        due("gain into another feed", desk.send(1, 0, 1), 100);
        due("reached", desk.feed(0, 3), 0);
        desk.setOwner(0, 0, 0);
        due("no owner any more", desk.send(0, 0, 1), 100);
        due("reached", desk.feed(0, 3), 1);
    }

    private static void numbersOfOwners() {
        part("the number of owners of the feed then");
        FeedDesk desk = new FeedDesk();
        due("none is taken away", desk.setOwner(3, 5, 0), 0);
        for (int channel = 0; channel < 12; channel++) due("one more", desk.setOwner(3, channel, 1), channel + 1);
        due("it is one already", desk.setOwner(3, 11, 1), 12);
        due("all twelve", desk.feed(3, 0), 4095);
        for (int channel = 0; channel < 12; channel++) due("one less", desk.setOwner(3, channel, 0), 11 - channel);
        due("none", desk.feed(3, 0), 0);
    }

    private static void gainsRoundDown() {
        part("The gain of a channel into a feed is (level of the channel) * (send) / 100");
        int[][] table = {{100, 100, 100}, {100, 1, 1}, {1, 100, 1}, {1, 99, 0}, {99, 1, 0}, {100, 0, 0}, {0, 100, 0}, {50, 2, 1},
            {49, 2, 0}, {99, 99, 98}};
        for (int feed = 0; feed < 4; feed++) {
            FeedDesk desk = new FeedDesk();
            for (int[] row : table) {
                desk.setChannel(11, 1, row[0]);
                desk.setSend(feed, 11, row[1]);
                due(row[0] + " * " + row[1] + " / 100", desk.send(feed, 11, 1), row[2]);
                due("it reaches the feed if that is greater than 0", desk.feed(feed, 3), row[2] > 0 ? 1 << 11 : 0);
                due("and then there is a path", desk.path(11, feed, -1), row[2] > 0 ? 1 : NONE);
            }
        }
    }

    private static void oneFeedIntoAChannel() {
        part("At most one feed comes back into a channel");
        for (int channel = 0; channel < 12; channel += 11) {
            FeedDesk desk = new FeedDesk();
            due("first", desk.setReturn(3, channel), -1);
            for (int feed = 0; feed < 3; feed++) due("another", desk.setReturn(feed, channel), ILLEGAL);
            due("the one it is", desk.channel(channel, 8), 3);
            due("the return, which may be 0", desk.feed(3, 1), channel);
            due("taken away", desk.setReturn(3, -1), channel);
            due("none", desk.channel(channel, 8), NONE);
            due("another then", desk.setReturn(0, channel), -1);
            due("it goes elsewhere", desk.setReturn(0, 5), channel);
            due("another then", desk.setReturn(1, channel), -1);
        }
        FeedDesk none = new FeedDesk();
        for (int feed = 0; feed < 4; feed++) due("none is no channel that is taken", none.setReturn(feed, -1), -1);
    }

    // ---- ticks

    /** A desk whose feed 0 comes back into the channel 11, and gets a sum of the others' inputs, 0 to 11000. */
    private static FeedDesk sum(int sum) {
        FeedDesk desk = new FeedDesk();
        int left = sum;
        for (int channel = 0; channel < 11; channel++) {
            int input = Math.min(left, 1000);
            left -= input;
            load(desk, "c" + channel + "f100i" + input + ";x0:" + channel + "=100;");
        }
        desk.setReturn(0, 11);
        desk.setChannel(11, 1, 100);
        return desk;
    }

    private static void signalIsCutOff() {
        part("the signal becomes its input and the output of this feed, but at most 9999");
        int[][] table = {{8998, 1000, 9998}, {8999, 1000, 9999}, {9000, 1000, 9999}, {9999, 0, 9999}, {9999, 1, 9999},
            {9999, 1000, 9999}, {0, 1000, 1000}, {0, 0, 0}, {9998, 0, 9998}};
        for (int[] row : table) {
            FeedDesk desk = sum(row[0]);
            desk.setChannel(11, 0, row[1]);
            desk.run(1);
            due("the input alone, in the first tick", desk.channel(11, 6), row[1]);
            desk.run(1);
            due(row[1] + " and " + row[0], desk.channel(11, 6), row[2]);
            due("that is no clip", desk.count(3), 0);
        }
    }

    private static void signalOfTheTickBefore() {
        part("the output of this feed as it was behind the tick before");
        FeedDesk desk = desk("c0i7f100;x0:0=100;x1:1=100;c1f100;x2:2=100;c2f100;");
        desk.setReturn(0, 1);
        desk.setReturn(1, 2);
        int[] first = {0, 7, 7};
        int[] second = {0, 0, 7};
        for (int tick = 0; tick < 3; tick++) {
            desk.run(1);
            due("one feed away, tick " + tick, desk.channel(1, 6), first[tick]);
            due("two feeds away, tick " + tick, desk.channel(2, 6), second[tick]);
        }
        FeedDesk down = desk("c2i7f100;x3:2=100;x0:1=100;c1f100;c0f100;");
        down.setReturn(3, 1);
        down.setReturn(0, 0);
        for (int tick = 0; tick < 3; tick++) {
            down.run(1);
            due("one feed away, tick " + tick, down.channel(1, 6), first[tick]);
            due("two feeds away, tick " + tick, down.channel(0, 6), second[tick]);
        }
        down.setReturn(0, -1);
        down.run(1);
        due("without a return", down.channel(0, 6), 0);
    }

    private static void outputIsCutOff() {
        part("but if that is greater than 9999, it becomes 9999, and this is a clip");
        int[][] table = {{9998, 9998, 0}, {9999, 9999, 0}, {10000, 9999, 1}, {10001, 9999, 1}, {11000, 9999, 1}, {0, 0, 0}};
        for (int[] row : table) {
            FeedDesk desk = sum(row[0]);
            due("the main sum is not cut off", desk.run(1), row[0]);
            due("output of " + row[0], desk.feed(0, 2), row[1]);
            due("clips of " + row[0], desk.count(3), row[2]);
            due("what it would be", desk.outputIn(0, 1), row[1]);
            desk.run(3);
            due("one each tick", desk.count(3), 4 * row[2]);
        }
    }

    private static void eachRoundedDown() {
        part("over all channels (each rounded down)");
        FeedDesk desk = desk("c0i1f50;c1i1f50;c2i1f99;c3i199f1;x3:0=100,1=100,2=100,3=100;");
        due("0 + 0 + 0 + 1", desk.run(1), 1);
        due("0 + 0 + 0 + 1", desk.feed(3, 2), 1);
        desk.setChannel(3, 0, 200);
        due("0 + 0 + 0 + 2", desk.run(1), 2);
        due("0 + 0 + 0 + 2", desk.feed(3, 2), 2);
    }

    private static void gainsAreOfLevels() {
        part("the sum of signal * gain / 100, the gain being that of the level");
        FeedDesk desk = desk("c0i100f80g1;c1i100f80;c2i100f80m;c3i100f80;x0:0=50,1=50,2=50,3=50;x1:0=50,3=50;");
        desk.setGroup(1, 0, 50);
        desk.setOwner(0, 3, 1);
        due("40 + 80 + 0 + 80", desk.run(1), 200);
        due("20 + 40 + 0, and the owner is left out", desk.feed(0, 2), 60);
        due("20 + 40", desk.feed(1, 2), 60);
        desk.setGroup(1, 1, 1);
        due("40, the others are soloed away", desk.run(1), 40);
        due("20", desk.feed(0, 2), 20);
        desk.setChannel(1, 3, 1);
        due("40 and the safe one, 80", desk.run(1), 120);
        due("20 + 40", desk.feed(0, 2), 60);
        due("20", desk.feed(1, 2), 20);
    }

    private static void clipsOfAllFeeds() {
        part("a clip for each feed and tick");
        FeedDesk desk = new FeedDesk();
        for (int channel = 0; channel < 12; channel++) {
            desk.setChannel(channel, 0, 1000);
            desk.setChannel(channel, 1, 100);
            for (int feed = 0; feed < 4; feed++) desk.setSend(feed, channel, 100);
        }
        for (int ticks = 1; ticks <= 5; ticks++) {
            desk.run(1);
            due("four in each tick", desk.count(3), 4 * ticks);
        }
        for (int feed = 0; feed < 4; feed++) due("output", desk.feed(feed, 2), 9999);
        desk.setSend(2, 0, 0);
        desk.setSend(2, 1, 0);
        desk.run(1);
        due("10000 clips as well", desk.count(3), 24);
        desk.setChannel(11, 0, 999);
        desk.run(1);
        due("9999 does not", desk.count(3), 27);
        desk.run(100);
        due("in a run of 100", desk.count(3), 327);
    }

    private static void mainSumIsNotCutOff() {
        part("the main sum becomes the sum over all channels");
        FeedDesk desk = new FeedDesk();
        for (int channel = 0; channel < 12; channel++) {
            desk.setChannel(channel, 0, 1000);
            desk.setChannel(channel, 1, 100);
            for (int feed = 0; feed < 4; feed++) desk.setSend(feed, channel, 100);
        }
        for (int feed = 0; feed < 4; feed++) desk.setReturn(feed, 8 + feed);
        due("12 * 1000", desk.run(1), 12000);
        due("8 * 1000 + 4 * 9999", desk.run(1), 47996);
        due("the peak is not cut off either", desk.count(2), 47996);
        due("the greatest signal", desk.channel(8, 6), 9999);
    }

    private static void peakIfGreater() {
        part("the peak becomes it, if it is greater");
        FeedDesk desk = desk("c0i50f100;");
        int[] inputs = {50, 49, 50, 51, 0, 1000, 999};
        int[] peaks = {50, 50, 50, 51, 51, 1000, 1000};
        for (int index = 0; index < inputs.length; index++) {
            desk.setChannel(0, 0, inputs[index]);
            due("main sum", desk.run(1), inputs[index]);
            due("peak", desk.count(2), peaks[index]);
        }
        FeedDesk within = desk("c0i100f100;");
        within.store(0);
        within.setChannel(0, 1, 0);
        within.setChannel(1, 1, 100);
        within.store(1);
        within.recall(0, 0);
        within.recall(1, 10);
        due("the sum behind the ticks", within.run(10), 0);
        due("the peak within them", within.count(2), 90);
    }

    private static void resetOfNothing() {
        part("Sets the peak and the number of clips to 0. Returns the previous peak");
        FeedDesk desk = sum(11000);
        due("nothing yet", desk.reset(), 0);
        desk.run(1);
        due("the peak", desk.reset(), 11000);
        due("clips", desk.count(3), 0);
        due("again", desk.reset(), 0);
        desk.run(1);
        due("the main sum is greater than 0 again, and it has the peak and the input of the tick", desk.count(2), 20999);
        due("clips", desk.count(3), 1);
    }

    private static void mainSumThen() {
        part("Returns the main sum then");
        FeedDesk desk = sum(11000);
        due("none ahead of the first tick", desk.count(1), 0);
        int[] sums = {11000, 20999, 20999};
        for (int tick = 0; tick < sums.length; tick++) {
            due("in the tick " + tick, desk.run(1), sums[tick]);
            due("and behind it", desk.count(1), sums[tick]);
        }
        desk.setChannel(0, 0, 0);
        due("it is that of the last tick", desk.count(1), 20999);
        desk.reset();
        due("reset() leaves it", desk.count(1), 20999);
    }

    private static void runOfManyIsOneAction() {
        part("Makes ticks. This is one action");
        FeedDesk one = desk("c0i10f99;x0:0=99;");
        one.setReturn(0, 0);
        FeedDesk many = desk("c0i10f99;x0:0=99;");
        many.setReturn(0, 0);
        int sum = 0;
        for (int tick = 0; tick < 100; tick++) sum = one.run(1);
        due("main sum", many.run(100), sum);
        due("ticks", many.count(0), 100);
        due("actions", many.count(9), 3);
        due("output", many.feed(0, 2), one.feed(0, 2));
        due("the least number of ticks", many.run(1), one.run(1));
        due("undo", many.undo(), 3);
        due("undo of all hundred", many.undo(), 2);
        due("ticks", many.count(0), 0);
        due("output", many.feed(0, 2), 0);
    }

    private static void whyInOrder() {
        part("otherwise the first of these");
        FeedDesk desk = desk("c0m;c1s;c2f1g0;c3f100;");
        desk.setGroup(0, 0, 0);
        due("muted and its fader is 0", desk.why(0), 1);
        due("its fader is 0", desk.why(1), 3);
        due("the master makes it 0", desk.why(2), 4);
        due("heard", desk.why(3), 0);
        desk.setChannel(2, 1, 0);
        due("its fader is 0 and the master, too", desk.why(2), 3);
        desk.setGroup(1, 1, 1);
        due("muted, soloed away and its fader is 0", desk.why(0), 1);
        due("safe, its fader is 0", desk.why(1), 3);
        due("soloed away and its fader is 0", desk.why(2), 2);
        due("soloed away", desk.why(3), 2);
        desk.setChannel(0, 2, 0);
        due("not muted any more", desk.why(0), 2);
        desk.setGroup(1, 1, 0);
        desk.setGroup(0, 0, 1);
        desk.setChannel(2, 1, 99);
        due("99 * 1 / 100", desk.why(2), 4);
        desk.setChannel(2, 1, 100);
        due("100 * 1 / 100", desk.why(2), 0);
    }

    // ---- undo and calls

    private static void historyOfFive() {
        part("A history of at most 5 states is kept; when a sixth one is recorded, the oldest one is dropped");
        for (int actions = 0; actions <= 12; actions++) {
            FeedDesk desk = new FeedDesk();
            for (int input = 1; input <= actions; input++) {
                desk.setChannel(3, 0, input);
                due("states", desk.count(9), Math.min(input, 5));
            }
            int kept = Math.min(actions, 5);
            for (int left = kept - 1; left >= 0; left--) {
                due("states that are left", desk.undo(), left);
                due("input", desk.channel(3, 0), actions - kept + left);
                due("states", desk.count(9), left);
            }
            due("it is empty", desk.undo(), ILLEGAL);
            due("what stays", desk.channel(3, 0), actions - kept);
            desk.setChannel(3, 0, 500);
            due("and again", desk.undo(), 0);
            due("what stays", desk.channel(3, 0), actions - kept);
        }
    }

    private static void undoOfClips() {
        part("a state is everything: the clips, the peak and the ticks, too");
        FeedDesk desk = sum(11000);
        desk.run(3);
        desk.run(2);
        desk.reset();
        due("ahead of reset()", desk.undo() >= 0 ? desk.count(3) : -1, 5);
        due("peak", desk.count(2), 20999);
        due("behind the first run", desk.undo() >= 0 ? desk.count(3) : -1, 3);
        due("ticks", desk.count(0), 3);
        due("ahead of it", desk.undo() >= 0 ? desk.count(3) : -1, 0);
        due("peak", desk.count(2), 0);
        due("main sum", desk.count(1), 0);
        due("signal", desk.channel(0, 6), 0);
    }

    private static void undoOfSumAndPeak() {
        part("the main sum and the peak are each restored as they were");
        FeedDesk desk = desk("c0i90f100;");
        desk.run(1);
        desk.setChannel(0, 0, 40);
        desk.run(1);
        desk.reset();
        desk.run(1);
        int[] sums = {40, 40, 90, 90, 0};
        int[] peaks = {0, 90, 90, 90, 0};
        for (int index = 0; index < 5; index++) {
            due("one back", desk.undo(), 4 - index);
            due("main sum", desk.count(1), sums[index]);
            due("peak", desk.count(2), peaks[index]);
        }
    }

    private static void everyActionOnce() {
        part("Every successful call of a method that is called an action records the state before it");
        FeedDesk desk = new FeedDesk();
        int[] history = new int[9];
        desk.setChannel(0, 0, 0);
        history[0] = desk.count(9);
        desk.setGroup(0, 0, 100);
        history[1] = desk.count(9);
        desk.setSend(0, 0, 0);
        history[2] = desk.count(9);
        desk.setOwner(0, 0, 0);
        history[3] = desk.count(9);
        desk.setReturn(0, -1);
        history[4] = desk.count(9);
        for (int action = 0; action < 5; action++) due("though it changes nothing", history[action], action + 1);
        for (int left = 4; left >= 0; left--) desk.undo();
        desk.reset();
        history[5] = desk.count(9);
        desk.load();
        history[6] = desk.count(9);
        desk.store(0);
        history[7] = desk.count(9);
        desk.recall(0, 0);
        history[8] = desk.count(9);
        for (int action = 5; action < 9; action++) due("though it changes nothing", history[action], action - 4);
        desk.append('c');
        desk.clearText();
        desk.count(0);
        desk.outputIn(0, 100);
        desk.cut(0);
        due("no actions", desk.count(9), 4);
        desk.run(1);
        due("a run", desk.count(9), 5);
    }

    private static void undoOfText() {
        part("a state is everything but the text and the history");
        FeedDesk desk = new FeedDesk();
        Desks.type(desk, "c0f5;");
        desk.setChannel(0, 0, 1);
        Desks.type(desk, "c1f6;");
        desk.undo();
        due("the text is as it was", desk.count(10), 10);
        due("and is read", desk.load(), 2);
        desk.undo();
        due("what was loaded does not come back as a text", desk.count(10), 0);
        due("the load is undone", desk.channel(1, 1), 0);
        Desks.type(desk, "c2f7;");
        desk.clearText();
        due("nothing to undo", desk.undo(), ILLEGAL);
        due("the text stays cleared", desk.count(10), 0);
    }

    private static void manyCalls() {
        part("An object is used for at most 512 calls");
        FeedDesk desk = new FeedDesk();
        for (int call = 1; call <= 511; call++) due("call " + call, desk.setChannel(0, 0, call), call - 1);
        due("the last one", desk.channel(0, 0), 511);
        FeedDesk texts = new FeedDesk();
        for (int call = 0; call < 102; call++) {
            for (char character : "c0m;".toCharArray()) texts.append(character);
            due("load", texts.load(), 1);
        }
        due("history", texts.count(9), 5);
        FeedDesk later = new FeedDesk();
        for (int call = 0; call < 20000; call++) {
            later.append('x');
            later.run(100);
            later.undo();
            later.store(call % 8);
            later.recall(call % 9, call % 120);
            later.load();
        }
        checks.holds("what later calls answer is free, but they end", later.count(10) >= FeedDesk.NONE);
    }
}
