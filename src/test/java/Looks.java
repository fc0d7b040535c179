/**
 * What can be seen of a desk, as one text, so that two looks can be compared. A look takes some 330 calls, so that
 * there is room for a text of 140 characters ahead of it: nothing is promised beyond 512 calls.
 */
final class Looks {
    private Looks() {
    }

    static String at(FeedDesk desk) {
        StringBuilder seen = new StringBuilder(state(desk));
        seen.append(" history ").append(desk.count(9));
        seen.append(" text ").append(desk.count(10));
        return seen.toString();
    }

    /** What undo() brings back. */
    static String state(FeedDesk desk) {
        StringBuilder seen = new StringBuilder("counts");
        for (int what = 0; what <= 8; what++) seen.append(' ').append(desk.count(what));
        channels(desk, seen);
        groupsAndFeeds(desk, seen);
        scenes(desk, seen);
        seen.append(" later");
        for (int feed = 0; feed < 4; feed++) {
            for (int ticks = 1; ticks <= 100; ticks += 18) seen.append(' ').append(desk.outputIn(feed, ticks));
        }
        return seen.toString();
    }

    private static void channels(FeedDesk desk, StringBuilder seen) {
        for (int channel = 0; channel < 12; channel++) {
            seen.append(" channel ").append(channel).append(':');
            for (int what = 0; what <= 8; what++) seen.append(' ').append(desk.channel(channel, what));
        }
    }

    private static void groupsAndFeeds(FeedDesk desk, StringBuilder seen) {
        for (int index = 0; index < 4; index++) {
            seen.append(" group and feed ").append(index).append(':');
            for (int what = 0; what <= 3; what++) {
                seen.append(' ').append(desk.group(index, what)).append(' ').append(desk.feed(index, what));
            }
            for (int channel = 0; channel < 12; channel++) {
                seen.append(' ').append(desk.send(index, channel, 0));
            }
        }
    }

    private static void scenes(FeedDesk desk, StringBuilder seen) {
        for (int scene = 0; scene < 6; scene++) {
            seen.append(" scene ").append(scene).append(':');
            for (int index = 0; index <= 16; index++) seen.append(' ').append(desk.scene(scene, index));
        }
    }
}
