/** The edges that the document names for paths, loops, hearers and cuts: each sentence has a test of its own. */
public final class PathEdgeTest {
    private static final int ILLEGAL = -2;
    private static final int NONE = -99;
    private static final Checks checks = new Checks();

    private PathEdgeTest() {
    }

    public static void main(String[] arguments) {
        pathEdges();
        notSoManyChannels();
        longestPath();
        tiesOfPaths();
        tiesInEachOrder();
        overTheChannel0();
        pathsAndOneStep();
        loudestEdges();
        gainsInTheirOrder();
        noWayFromAFeedThatIsNotReached();
        feedsWithoutReturn();
        hearersEdges();
        cutEdges();
        checks.finish();
    }

    private static void part(String sentence) {
        checks.part(sentence);
    }

    private static void due(String call, int got, int want) {
        checks.due(call, got, want);
    }

    private static FeedDesk desk(String patch) {
        return Desks.loaded(patch);
    }

    private static void pathEdges() {
        part("Its length is the number of its channels");
        FeedDesk desk = desk("c11f1;x3:11=100;");
        due("the shortest path of all", desk.path(11, 3, -1), 1);
        due("its first channel", desk.path(11, 3, 0), 11);
        due("it has not so many channels", desk.path(11, 3, 1), NONE);
        due("it has not so many channels", desk.path(11, 3, Integer.MAX_VALUE), NONE);
        due("no path has a length of 0", desk.path(0, 3, -1), NONE);
        due("no path, no channel", desk.path(0, 3, 0), NONE);
        desk.setReturn(3, 11);
        due("a loop does not make it longer", desk.path(11, 3, -1), 1);
        due("nor gives it a second channel", desk.path(11, 3, 1), NONE);
    }

    private static void notSoManyChannels() {
        part("NONE if it has not so many channels");
        // The last channel reaches another feed, too, from which no way leads on to the feed at the end.
        FeedDesk desk = desk("c4f100;c6f100;x0:4=100;x1:4=100,6=100;x2:6=100;");
        desk.setReturn(0, 6);
        desk.setReturn(2, 9);
        int[] two = {2, 4, 6, NONE, NONE};
        for (int index = -1; index <= 3; index++) due("by the feed 0", desk.path(4, 2, index), two[index + 1]);
        desk.setReturn(1, 10);
        int[] one = {1, 4, NONE, NONE, NONE};
        for (int index = -1; index <= 3; index++) due("in one step", desk.path(4, 1, index), one[index + 1]);
        for (int index = -1; index <= 3; index++) due("by the feed 0", desk.path(4, 2, index), two[index + 1]);
    }

    /** From the channel 0 by the feeds in an order, over the channels 11, 10 and 9. */
    private static FeedDesk chain(int[] feeds) {
        FeedDesk desk = desk("c0f100;c11f100;c10f100;c9f100;");
        int[] channels = {0, 11, 10, 9};
        for (int step = 0; step < 4; step++) {
            desk.setSend(feeds[step], channels[step], 100);
            if (step < 3) desk.setReturn(feeds[step], channels[step + 1]);
        }
        return desk;
    }

    private static void longestPath() {
        part("no feed comes twice, the feed at the end included");
        int[][] orders = {{0, 1, 2, 3}, {3, 2, 1, 0}, {1, 3, 0, 2}, {2, 0, 3, 1}};
        for (int[] order : orders) {
            FeedDesk desk = chain(order);
            int last = order[3];
            int[] want = {4, 0, 11, 10, 9, NONE, NONE};
            for (int index = -1; index <= 5; index++) due("four channels", desk.path(0, last, index), want[index + 1]);
            due("gain", desk.loudest(0, last), 100);
            due("no loop", desk.loops(), 0);
            desk.setReturn(last, 0);
            due("all feeds hear themselves back", desk.loops(), 15);
            for (int index = -1; index <= 5; index++) due("four channels", desk.path(0, last, index), want[index + 1]);
            due("round to the first feed", desk.path(11, order[0], -1), 4);
            due("round to the first feed", desk.path(11, order[0], 3), 0);
            desk.setSend(last, 9, 0);
            due("the last step is missing", desk.path(0, last, -1), NONE);
            due("no loop", desk.loops(), 0);
        }
    }

    private static void tiesOfPaths() {
        part("of several shortest paths the one with the smaller channel where they differ first");
        // From 5 to the feed 3 over two of the channels 1, 2, 3; they come back from the feeds 0, 1, 2.
        FeedDesk desk = desk("c5f100;c1f100;c2f100;c3f100;x0:5=100;x1:5=100;x2:5=100;x3:1=100,2=100,3=100;");
        desk.setReturn(0, 3);
        desk.setReturn(1, 2);
        desk.setReturn(2, 1);
        int[] want = {2, 5, 1, NONE};
        for (int index = -1; index <= 2; index++) due("two channels", desk.path(5, 3, index), want[index + 1]);
        desk.setSend(2, 5, 0);
        due("the next one", desk.path(5, 3, 1), 2);
        desk.setSend(1, 5, 0);
        due("the greatest one", desk.path(5, 3, 1), 3);
        // By the channels 2 or 3 to the channel 1.
        FeedDesk first = desk("c5f100;c1f100;c2f100;c3f100;x1:5=100;x0:5=100;x2:2=100,3=100;x3:1=100;");
        first.setReturn(0, 3);
        first.setReturn(1, 2);
        first.setReturn(2, 1);
        int[] over = {3, 5, 2, 1, NONE};
        for (int index = -1; index <= 3; index++) due("three channels", first.path(5, 3, index), over[index + 1]);
        FeedDesk second = desk("c5f100;c1f100;c4f100;c0f100;x0:5=100;x1:4=100;x2:4=100;x3:0=100,1=100;");
        second.setReturn(0, 4);
        second.setReturn(1, 1);
        second.setReturn(2, 0);
        int[] smaller = {3, 5, 4, 0, NONE};
        for (int index = -1; index <= 3; index++) due("the third differs", second.path(5, 3, index), smaller[index + 1]);
        second.setSend(3, 5, 1);
        due("a shorter one goes ahead, whatever its channels", second.path(5, 3, -1), 1);
    }

    private static void tiesInEachOrder() {
        part("the smaller channel, whatever the feed that comes back into it");
        int[][] orders = {{1, 2, 3}, {1, 3, 2}, {2, 1, 3}, {2, 3, 1}, {3, 1, 2}, {3, 2, 1}};
        for (int[] order : orders) {
            FeedDesk desk = desk("c5f100;c1f100;c2f100;c3f100;x0:5=100;x1:5=100;x2:5=100;x3:1=100,2=100,3=100;");
            for (int feed = 0; feed < 3; feed++) desk.setReturn(feed, order[feed]);
            for (int smallest = 1; smallest <= 3; smallest++) {
                due("the second channel", desk.path(5, 3, 1), smallest);
                desk.setSend(3, smallest, 0);
            }
            due("none is left", desk.path(5, 3, 1), NONE);
        }
    }

    private static void overTheChannel0() {
        part("the channel 0 is the smallest one");
        for (int before = 0; before < 3; before++) {
            FeedDesk desk = desk("c7f100;c0f90;c1f80;c2f70;x3:0=100,1=100,2=100;");
            for (int feed = 0; feed < 3; feed++) {
                desk.setSend(feed, 7, 100);
                desk.setReturn(feed, (feed + before) % 3);
            }
            due("length", desk.path(7, 3, -1), 2);
            due("of three channels", desk.path(7, 3, 1), 0);
            due("of three gains", desk.loudest(7, 3), 90);
            desk.setOwner(3, 7, 1);
            due("it hears itself", desk.hearers(3), 1 << 7);
            due("by three ways", desk.cut(3), NONE);
            desk.setSend(3, 1, 0);
            desk.setSend(3, 2, 0);
            due("over the channel 0 alone", desk.loudest(7, 3), 90);
            due("over the channel 0 alone", desk.path(7, 3, 1), 0);
            due("by one way", desk.cut(3), 100 * ((3 - before) % 3) + 7);
        }
    }

    private static void pathsAndOneStep() {
        part("A channel reaches a feed in one step if its gain into it is greater than 0");
        FeedDesk desk = desk("c0f1g0;x2:0=100;");
        due("gain 1", desk.path(0, 2, -1), 1);
        due("reached", desk.feed(2, 3), 1);
        desk.setSend(2, 0, 99);
        due("1 * 99 / 100", desk.path(0, 2, -1), NONE);
        due("not reached", desk.feed(2, 3), 0);
        desk.setSend(2, 0, 100);
        desk.setGroup(0, 0, 99);
        due("the level 1 * 99 / 100", desk.path(0, 2, -1), NONE);
        desk.setGroup(0, 0, 100);
        due("again", desk.path(0, 2, -1), 1);
        desk.setOwner(2, 0, 1);
        due("an owner", desk.path(0, 2, -1), NONE);
        desk.setOwner(2, 0, 0);
        desk.setChannel(0, 2, 1);
        due("muted", desk.path(0, 2, -1), NONE);
        desk.setChannel(0, 2, 0);
        desk.setGroup(1, 1, 1);
        due("others are soloed", desk.path(0, 2, -1), NONE);
        desk.setChannel(0, 3, 1);
        due("safe", desk.path(0, 2, -1), 1);
    }

    private static void loudestEdges() {
        part("the gain, which can be 0");
        FeedDesk desk = desk("c0f100;c1f100;x0:0=9;x1:1=11;");
        desk.setReturn(0, 1);
        due("9 * 11 / 100", desk.loudest(0, 1), 0);
        desk.setSend(0, 0, 10);
        due("10 * 11 / 100", desk.loudest(0, 1), 1);
        desk.setSend(1, 1, 9);
        due("10 * 9 / 100", desk.loudest(0, 1), 0);
        desk.setSend(1, 1, 10);
        due("10 * 10 / 100", desk.loudest(0, 1), 1);
        desk.setSend(1, 0, 1);
        due("the two are as loud", desk.loudest(0, 1), 1);
        desk.setSend(1, 1, 0);
        due("the direct one", desk.loudest(0, 1), 1);
        desk.setSend(1, 0, 0);
        due("none, which is not 0", desk.loudest(0, 1), NONE);
        for (int feed = 0; feed < 4; feed++) {
            for (int channel = 2; channel < 12; channel++) due("none", desk.loudest(channel, feed), NONE);
        }
        FeedDesk four = chain(new int[] {0, 1, 2, 3});
        int[] channels = {0, 11, 10, 9};
        for (int step = 0; step < 4; step++) four.setSend(step, channels[step], 99);
        due("100 -> 99 -> 98 -> 97 -> 96, each rounded down", four.loudest(0, 3), 96);
        four.setSend(3, 0, 95);
        due("the longer one is louder by 1", four.loudest(0, 3), 96);
        due("and is not the shortest one", four.path(0, 3, -1), 1);
        four.setSend(3, 0, 97);
        due("the shorter one is louder by 1", four.loudest(0, 3), 97);
        due("the greatest gain of all", chain(new int[] {3, 1, 0, 2}).loudest(0, 2), 100);
    }

    private static void gainsInTheirOrder() {
        part("for each of its channels, in their order, it becomes gain * (gain of the channel into the feed) / 100");
        int[][] table = {{50, 67, 99, 32}, {99, 67, 50, 33}, {99, 50, 67, 32}, {67, 50, 99, 32}, {67, 99, 50, 33}};
        for (int[] row : table) {
            FeedDesk desk = desk("c4f100;c8f100;c6f100;");
            desk.setSend(2, 4, row[0]);
            desk.setSend(0, 8, row[1]);
            desk.setSend(1, 6, row[2]);
            desk.setReturn(2, 8);
            desk.setReturn(0, 6);
            due(row[0] + " * " + row[1] + " / 100 * " + row[2] + " / 100", desk.loudest(4, 1), row[3]);
        }
    }

    private static void noWayFromAFeedThatIsNotReached() {
        part("each of the others being the return of the feed that the channel ahead of it reaches in one step");
        for (int first = 0; first < 4; first++) {
            for (int second = 0; second < 4; second++) {
                if (first == second) continue;
                FeedDesk desk = desk("c0f100;c5f100;");
                desk.setReturn(first, 5);
                desk.setSend(second, 5, 60);
                due("no path", desk.path(0, second, -1), NONE);
                due("no gain", desk.loudest(0, second), NONE);
                desk.setOwner(second, 0, 1);
                due("nobody hears itself", desk.hearers(second), 0);
                desk.setSend(first, 0, 50);
                due("a path now", desk.path(0, second, -1), 2);
                due("50 * 60 / 100", desk.loudest(0, second), 30);
                due("the owner hears itself", desk.hearers(second), 1);
            }
        }
    }

    private static void feedsWithoutReturn() {
        part("A feed hears itself back if there is a path from its return to itself");
        FeedDesk desk = desk("c0f100;x0:0=100;x1:0=100;x2:0=100;x3:0=100;");
        due("without returns", desk.loops(), 0);
        desk.setReturn(3, 1);
        due("its return does not reach it", desk.loops(), 0);
        desk.setReturn(3, 0);
        due("its return reaches it", desk.loops(), 8);
        due("and there is a path", desk.loudest(0, 3), 100);
        desk.setOwner(3, 0, 1);
        due("its return owns it", desk.loops(), 0);
        desk.setOwner(3, 0, 0);
        desk.setReturn(3, -1);
        due("without a return again", desk.loops(), 0);
        desk.setReturn(0, 0);
        due("the first feed", desk.loops(), 1);
        desk.setChannel(0, 2, 1);
        due("muted", desk.loops(), 0);
    }

    private static void hearersEdges() {
        part("An owner of a feed hears itself if there is a path from it to this feed");
        FeedDesk desk = new FeedDesk();
        for (int feed = 0; feed < 4; feed++) due("no owners", desk.hearers(feed), 0);
        for (int channel = 0; channel < 11; channel++) {
            desk.setChannel(channel, 1, 100);
            desk.setOwner(0, channel, 1);
            desk.setSend(0, channel, 100);
            due("its own send leaves it out", desk.hearers(0), 0);
        }
        desk.setReturn(1, 11);
        desk.setSend(0, 11, 100);
        desk.setChannel(11, 1, 100);
        for (int channel = 0; channel < 11; channel++) {
            desk.setSend(1, channel, 100);
            due("one more hears itself", desk.hearers(0), (2 << channel) - 1);
        }
        due("the channel 11 comes to the feed, but does not own it", desk.hearers(0), 2047);
        due("nobody owns the feed 1", desk.hearers(1), 0);
        desk.setOwner(0, 11, 1);
        due("all own it, so nobody comes to it", desk.hearers(0), 0);
    }

    private static void cutEdges() {
        part("the send that alone would have to be 0; of several the smallest number");
        // The owner 11 of the feed 0 hears itself by the feed 3 and its return, the channel 0.
        FeedDesk desk = desk("c11f100;c0f100;x3:11=100;x0:0=100;");
        desk.setOwner(0, 11, 1);
        desk.setReturn(3, 0);
        due("the smallest number of all", desk.cut(0), 0);
        due("it changes nothing", desk.send(0, 0, 0), 100);
        desk.setReturn(3, 10);
        desk.setChannel(10, 1, 100);
        desk.setSend(2, 10, 100);
        desk.setReturn(2, 9);
        desk.setChannel(9, 1, 100);
        desk.setSend(0, 9, 100);
        due("the last step", desk.cut(0), 9);
        desk.setSend(0, 10, 100);
        due("two last steps, so the first one", desk.cut(0), 311);
        desk.setSend(1, 11, 100);
        desk.setReturn(1, 8);
        desk.setChannel(8, 1, 100);
        desk.setSend(0, 8, 100);
        due("two ways from the start, so none", desk.cut(0), NONE);
        due("the owner still hears itself", desk.hearers(0), 1 << 11);
        desk.setSend(3, 11, 0);
        due("one way again", desk.cut(0), 8);
        desk.setSend(1, 11, 0);
        due("no way", desk.cut(0), ILLEGAL);
    }
}
