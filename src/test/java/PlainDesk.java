import java.util.ArrayList;
import java.util.List;

/**
 * The document once more, for comparison: in other forms than FeedDesk, close to the words and slow. All paths are
 * listed, states are copied whole, and a text is read character by character by what may stand next.
 */
final class PlainDesk {
    private static final int INVALID = -1;
    private static final int ILLEGAL = -2;
    private static final int CAPACITY = -3;
    private static final int NONE = -99;

    /** One channel. */
    private static final class Strip {
        int input;
        int fader;
        boolean muted;
        boolean safe;
        boolean[] member = new boolean[4];
        int signal;
        boolean touched;
        int fadeStart;

        Strip copy() {
            Strip copy = new Strip();
            copy.input = input;
            copy.fader = fader;
            copy.muted = muted;
            copy.safe = safe;
            copy.member = member.clone();
            copy.signal = signal;
            copy.touched = touched;
            copy.fadeStart = fadeStart;
            return copy;
        }
    }

    /** One group. */
    private static final class Bus {
        int master = 100;
        boolean soloed;
        boolean touched;
        int fadeStart;

        Bus copy() {
            Bus copy = new Bus();
            copy.master = master;
            copy.soloed = soloed;
            copy.touched = touched;
            copy.fadeStart = fadeStart;
            return copy;
        }
    }

    /** One feed. */
    private static final class Line {
        boolean[] owner = new boolean[12];
        int[] send = new int[12];
        Integer back;
        int output;

        Line copy() {
            Line copy = new Line();
            copy.owner = owner.clone();
            copy.send = send.clone();
            copy.back = back;
            copy.output = output;
            return copy;
        }
    }

    /** What a scene keeps; never changed once made. */
    private record Shot(int[] faders, boolean[] mutes, int[] masters) {
    }

    /** A state in the words of the document. */
    private static final class World {
        Strip[] strips = new Strip[12];
        Bus[] buses = new Bus[4];
        Line[] lines = new Line[4];
        Shot[] shots = new Shot[6];
        Integer fadeTo;
        int fadeStep;
        int fadeTicks;
        int ticks;
        int main;
        int peak;
        int clips;

        World copy() {
            World copy = new World();
            for (int index = 0; index < 12; index++) copy.strips[index] = strips[index].copy();
            for (int index = 0; index < 4; index++) {
                copy.buses[index] = buses[index].copy();
                copy.lines[index] = lines[index].copy();
            }
            copy.shots = shots.clone();
            copy.fadeTo = fadeTo;
            copy.fadeStep = fadeStep;
            copy.fadeTicks = fadeTicks;
            copy.ticks = ticks;
            copy.main = main;
            copy.peak = peak;
            copy.clips = clips;
            return copy;
        }

        static World first() {
            World world = new World();
            for (int index = 0; index < 12; index++) world.strips[index] = new Strip();
            for (int index = 0; index < 4; index++) {
                world.buses[index] = new Bus();
                world.lines[index] = new Line();
            }
            return world;
        }

        boolean elsewhereSoloed(int channel) {
            boolean any = false;
            boolean own = false;
            for (int group = 0; group < 4; group++) {
                any |= buses[group].soloed;
                own |= buses[group].soloed && strips[channel].member[group];
            }
            return any && !own && !strips[channel].safe;
        }

        int level(int channel) {
            Strip strip = strips[channel];
            if (strip.muted) return 0;
            if (elsewhereSoloed(channel)) return 0;
            int level = strip.fader;
            for (int group = 0; group < 4; group++) {
                if (strip.member[group]) level = level * buses[group].master / 100;
            }
            return level;
        }

        int gain(int channel, int feed) {
            if (lines[feed].owner[channel]) return 0;
            return level(channel) * lines[feed].send[channel] / 100;
        }

        void tick() {
            if (fadeTo != null) fadeOn();
            int[] behind = new int[4];
            for (int feed = 0; feed < 4; feed++) behind[feed] = lines[feed].output;
            for (int channel = 0; channel < 12; channel++) {
                int signal = strips[channel].input;
                for (int feed = 0; feed < 4; feed++) {
                    if (lines[feed].back != null && lines[feed].back == channel) signal += behind[feed];
                }
                strips[channel].signal = Math.min(signal, 9999);
            }
            for (int feed = 0; feed < 4; feed++) {
                int sum = 0;
                for (int channel = 0; channel < 12; channel++) sum += strips[channel].signal * gain(channel, feed) / 100;
                if (sum > 9999) {
                    sum = 9999;
                    clips++;
                }
                lines[feed].output = sum;
            }
            main = 0;
            for (int channel = 0; channel < 12; channel++) main += strips[channel].signal * level(channel) / 100;
            if (main > peak) peak = main;
            ticks++;
        }

        private int between(int from, int to) {
            int way = (to - from) * fadeStep;
            int size = Math.abs(way) / fadeTicks;
            return way < 0 ? from - size : from + size;
        }

        private void fadeOn() {
            fadeStep++;
            Shot goal = shots[fadeTo];
            boolean half = fadeStep == (fadeTicks + 1) / 2;
            for (int channel = 0; channel < 12; channel++) {
                Strip strip = strips[channel];
                if (strip.touched) continue;
                strip.fader = between(strip.fadeStart, goal.faders[channel]);
                if (half) strip.muted = goal.mutes[channel];
            }
            for (int group = 0; group < 4; group++) {
                Bus bus = buses[group];
                if (!bus.touched) bus.master = between(bus.fadeStart, goal.masters[group]);
            }
            if (fadeStep == fadeTicks) endFade();
        }

        void endFade() {
            fadeTo = null;
            for (Strip strip : strips) strip.touched = false;
            for (Bus bus : buses) bus.touched = false;
        }

        void beginFade(int scene, int ticksOfIt) {
            endFade();
            fadeTo = scene;
            fadeStep = 0;
            fadeTicks = ticksOfIt;
            for (Strip strip : strips) strip.fadeStart = strip.fader;
            for (Bus bus : buses) bus.fadeStart = bus.master;
        }

        void become(Shot shot) {
            endFade();
            for (int channel = 0; channel < 12; channel++) {
                strips[channel].fader = shot.faders[channel];
                strips[channel].muted = shot.mutes[channel];
            }
            for (int group = 0; group < 4; group++) buses[group].master = shot.masters[group];
        }

        Shot shot() {
            int[] faders = new int[12];
            boolean[] mutes = new boolean[12];
            int[] masters = new int[4];
            for (int channel = 0; channel < 12; channel++) {
                faders[channel] = strips[channel].fader;
                mutes[channel] = strips[channel].muted;
            }
            for (int group = 0; group < 4; group++) masters[group] = buses[group].master;
            return new Shot(faders, mutes, masters);
        }

        /** All paths from a channel to a feed, each as its channels and, behind them, its gain. */
        List<List<Integer>> paths(int channel, int feed) {
            List<List<Integer>> found = new ArrayList<>();
            follow(channel, feed, new ArrayList<>(), new ArrayList<>(), 100, found);
            return found;
        }

        private void follow(int channel, int goal, List<Integer> channels, List<Integer> feeds, int gain,
                List<List<Integer>> found) {
            channels.add(channel);
            for (int feed = 0; feed < 4; feed++) {
                if (feeds.contains(feed) || gain(channel, feed) == 0) continue;
                int then = gain * gain(channel, feed) / 100;
                if (feed == goal) {
                    List<Integer> path = new ArrayList<>(channels);
                    path.add(then);
                    found.add(path);
                } else if (lines[feed].back != null) {
                    feeds.add(feed);
                    follow(lines[feed].back, goal, channels, feeds, then, found);
                    feeds.remove(feeds.size() - 1);
                }
            }
            channels.remove(channels.size() - 1);
        }

        int hearers(int feed) {
            int hearers = 0;
            for (int channel = 0; channel < 12; channel++) {
                if (lines[feed].owner[channel] && !paths(channel, feed).isEmpty()) hearers += 1 << channel;
            }
            return hearers;
        }

        int property(int channel, int what) {
            Strip strip = strips[channel];
            int groups = 0;
            for (int group = 0; group < 4; group++) groups += strip.member[group] ? 1 << group : 0;
            return new int[] {strip.input, strip.fader, strip.muted ? 1 : 0, strip.safe ? 1 : 0, groups}[what];
        }

        void byHand(int channel, int what, int value) {
            Strip strip = strips[channel];
            if (what == 0) strip.input = value;
            if (what == 1) strip.fader = value;
            if (what == 2) strip.muted = value == 1;
            if (what == 3) strip.safe = value == 1;
            for (int group = 0; what == 4 && group < 4; group++) strip.member[group] = (value / (1 << group)) % 2 == 1;
            if (fadeTo != null && (what == 1 || what == 2)) strip.touched = true;
        }
    }

    private World world = World.first();
    private final List<World> history = new ArrayList<>();
    private String text = "";

    private void action() {
        history.add(world.copy());
        if (history.size() > 5) history.remove(0);
    }

    private static boolean in(int value, int least, int most) {
        return least <= value && value <= most;
    }

    int setChannel(int channel, int what, int value) {
        if (!in(channel, 0, 11) || !in(what, 0, 4)) return INVALID;
        if (!in(value, 0, new int[] {1000, 100, 1, 1, 15}[what])) return INVALID;
        action();
        int old = world.property(channel, what);
        world.byHand(channel, what, value);
        return old;
    }

    int setGroup(int group, int what, int value) {
        if (!in(group, 0, 3) || !in(what, 0, 1) || !in(value, 0, what == 0 ? 100 : 1)) return INVALID;
        action();
        Bus bus = world.buses[group];
        int old = what == 0 ? bus.master : bus.soloed ? 1 : 0;
        if (what == 0) {
            bus.master = value;
            bus.touched = world.fadeTo != null;
        } else {
            bus.soloed = value == 1;
        }
        return old;
    }

    int setSend(int feed, int channel, int send) {
        if (!in(feed, 0, 3) || !in(channel, 0, 11) || !in(send, 0, 100)) return INVALID;
        action();
        int old = world.lines[feed].send[channel];
        world.lines[feed].send[channel] = send;
        return old;
    }

    int setOwner(int feed, int channel, int is) {
        if (!in(feed, 0, 3) || !in(channel, 0, 11) || !in(is, 0, 1)) return INVALID;
        action();
        world.lines[feed].owner[channel] = is == 1;
        int owners = 0;
        for (boolean owner : world.lines[feed].owner) owners += owner ? 1 : 0;
        return owners;
    }

    int setReturn(int feed, int channel) {
        if (!in(feed, 0, 3) || !in(channel, -1, 11)) return INVALID;
        for (int other = 0; other < 4; other++) {
            Integer back = world.lines[other].back;
            if (other != feed && back != null && back == channel) return ILLEGAL;
        }
        action();
        Integer old = world.lines[feed].back;
        world.lines[feed].back = channel == -1 ? null : Integer.valueOf(channel);
        return old == null ? -1 : old;
    }

    private int filled() {
        int filled = 0;
        for (Shot shot : world.shots) filled += shot == null ? 0 : 1;
        return filled;
    }

    int store(int scene) {
        if (!in(scene, 0, 5)) return INVALID;
        action();
        world.shots[scene] = world.shot();
        return filled();
    }

    int recall(int scene, int ticks) {
        if (!in(scene, 0, 5) || !in(ticks, 0, 100)) return INVALID;
        Shot shot = world.shots[scene];
        if (shot == null) return ILLEGAL;
        action();
        int different = 0;
        for (int channel = 0; channel < 12; channel++) {
            if (world.strips[channel].fader != shot.faders[channel]) different++;
        }
        for (int group = 0; group < 4; group++) {
            if (world.buses[group].master != shot.masters[group]) different++;
        }
        if (ticks == 0) world.become(shot);
        else world.beginFade(scene, ticks);
        return different;
    }

    int run(int ticks) {
        if (!in(ticks, 1, 100)) return INVALID;
        if (world.ticks + ticks > 10000) return CAPACITY;
        action();
        for (int tick = 0; tick < ticks; tick++) world.tick();
        return world.main;
    }

    int reset() {
        action();
        int old = world.peak;
        world.peak = 0;
        world.clips = 0;
        return old;
    }

    int undo() {
        if (history.isEmpty()) return ILLEGAL;
        world = history.remove(history.size() - 1);
        return history.size();
    }

    int append(int character) {
        if (!in(character, 1, 255)) return INVALID;
        if (text.length() == 140) return CAPACITY;
        text += (char) character;
        return text.length();
    }

    int clearText() {
        int old = text.length();
        text = "";
        return old;
    }

    // ---- the text: what may stand next is told by the mode

    private enum Mode { ITEM, CHANNEL, LETTER, VALUE, GROUPS, FEED, COLON, FIRST, SENDER, EQUALS, SEND, BEHIND }

    int load() {
        World trial = world.copy();
        Mode mode = Mode.ITEM;
        int items = 0;
        int channel = 0;
        int feed = 0;
        String told = "";
        int offset = 0;
        while (offset < text.length()) {
            char here = text.charAt(offset);
            if (here == ' ') {
                offset++;
                continue;
            }
            int end = offset;
            while (end < text.length() && Character.digit(text.charAt(end), 10) >= 0 && text.charAt(end) < 128) end++;
            String digits = text.substring(offset, end);
            char letter = told.isEmpty() ? 0 : told.charAt(told.length() - 1);
            boolean ends = false;
            int then = offset + 1;
            switch (mode) {
                case ITEM:
                    if (here == 'c') mode = Mode.CHANNEL;
                    else if (here == 'x') mode = Mode.FEED;
                    else return -1000 - offset;
                    told = "";
                    break;
                case CHANNEL:
                case SENDER:
                    if (!isNumber(digits, 11)) return -1000 - offset;
                    channel = Integer.parseInt(digits);
                    then = end;
                    mode = mode == Mode.CHANNEL ? Mode.LETTER : Mode.EQUALS;
                    break;
                case LETTER:
                    if (here == ';' && !told.isEmpty()) ends = true;
                    else if ("ifgms".indexOf(here) < 0 || told.indexOf(here) >= 0) return -1000 - offset;
                    else {
                        told += here;
                        if (here == 'm') trial.byHand(channel, 2, 1);
                        if (here == 's') trial.byHand(channel, 3, 1);
                        if (here == 'g') mode = Mode.GROUPS;
                        if (here == 'i' || here == 'f') mode = Mode.VALUE;
                    }
                    break;
                case VALUE:
                    if (!isNumber(digits, letter == 'i' ? 1000 : 100)) return -1000 - offset;
                    trial.byHand(channel, letter == 'i' ? 0 : 1, Integer.parseInt(digits));
                    then = end;
                    mode = Mode.LETTER;
                    break;
                case GROUPS:
                    int fit = fittingGroups(digits);
                    if (fit == 0) return -1000 - offset;
                    int set = 0;
                    for (char digit : digits.substring(0, fit).toCharArray()) set += 1 << (digit - '0');
                    trial.byHand(channel, 4, set);
                    then = offset + fit;
                    mode = Mode.LETTER;
                    break;
                case FEED:
                    if (!isNumber(digits, 3)) return -1000 - offset;
                    feed = Integer.parseInt(digits);
                    then = end;
                    mode = Mode.COLON;
                    break;
                case COLON:
                    if (here != ':') return -1000 - offset;
                    mode = Mode.FIRST;
                    break;
                case FIRST:
                    if (here == ';') ends = true;
                    else {
                        mode = Mode.SENDER;
                        then = offset;
                    }
                    break;
                case EQUALS:
                    if (here != '=') return -1000 - offset;
                    mode = Mode.SEND;
                    break;
                case SEND:
                    if (!isNumber(digits, 100)) return -1000 - offset;
                    trial.lines[feed].send[channel] = Integer.parseInt(digits);
                    then = end;
                    mode = Mode.BEHIND;
                    break;
                default:
                    if (here == ',') mode = Mode.SENDER;
                    else if (here == ';') ends = true;
                    else return -1000 - offset;
                    break;
            }
            if (ends) {
                items++;
                mode = Mode.ITEM;
            }
            offset = then;
        }
        if (mode != Mode.ITEM) return -1000 - text.length();
        action();
        world = trial;
        text = "";
        return items;
    }

    private static boolean isNumber(String digits, int most) {
        return digits.equals("0") || digits.matches("[1-9][0-9]{0,4}") && Integer.parseInt(digits) <= most;
    }

    private static int fittingGroups(String digits) {
        int fit = 0;
        while (fit < digits.length() && digits.charAt(fit) <= '3' && digits.indexOf(digits.charAt(fit)) == fit) fit++;
        return fit;
    }

    // ---- looking

    int count(int what) {
        if (!in(what, 0, 10)) return INVALID;
        int soloed = 0;
        int audible = 0;
        for (int group = 0; group < 4; group++) soloed += world.buses[group].soloed ? 1 << group : 0;
        for (int channel = 0; channel < 12; channel++) audible += world.level(channel) > 0 ? 1 << channel : 0;
        boolean fade = world.fadeTo != null;
        return new int[] {world.ticks, world.main, world.peak, world.clips, fade ? world.fadeStep : NONE,
            fade ? world.fadeTicks : NONE, filled(), soloed, audible, history.size(), text.length()}[what];
    }

    int channel(int channel, int what) {
        if (!in(channel, 0, 11) || !in(what, 0, 8)) return INVALID;
        if (what <= 4) return world.property(channel, what);
        if (what == 5) return world.level(channel);
        if (what == 6) return world.strips[channel].signal;
        if (what == 7) return world.strips[channel].touched ? 1 : 0;
        for (int feed = 0; feed < 4; feed++) {
            if (world.lines[feed].back != null && world.lines[feed].back == channel) return feed;
        }
        return NONE;
    }

    int group(int group, int what) {
        if (!in(group, 0, 3) || !in(what, 0, 3)) return INVALID;
        Bus bus = world.buses[group];
        if (what == 0) return bus.master;
        if (what == 1) return bus.soloed ? 1 : 0;
        if (what == 3) return bus.touched ? 1 : 0;
        int members = 0;
        for (Strip strip : world.strips) members += strip.member[group] ? 1 : 0;
        return members;
    }

    int feed(int feed, int what) {
        if (!in(feed, 0, 3) || !in(what, 0, 3)) return INVALID;
        Line line = world.lines[feed];
        if (what == 1) return line.back == null ? NONE : line.back;
        if (what == 2) return line.output;
        int mask = 0;
        for (int channel = 0; channel < 12; channel++) {
            if (what == 0 ? line.owner[channel] : world.gain(channel, feed) > 0) mask += 1 << channel;
        }
        return mask;
    }

    int send(int feed, int channel, int what) {
        if (!in(feed, 0, 3) || !in(channel, 0, 11) || !in(what, 0, 1)) return INVALID;
        return what == 0 ? world.lines[feed].send[channel] : world.gain(channel, feed);
    }

    int scene(int scene, int index) {
        if (!in(scene, 0, 5) || !in(index, 0, 16)) return INVALID;
        Shot shot = world.shots[scene];
        if (shot == null) return NONE;
        if (index < 12) return shot.faders[index];
        if (index < 16) return shot.masters[index - 12];
        int muted = 0;
        for (int channel = 0; channel < 12; channel++) muted += shot.mutes[channel] ? 1 << channel : 0;
        return muted;
    }

    // ---- reasons and paths

    int why(int channel) {
        if (!in(channel, 0, 11)) return INVALID;
        if (world.level(channel) > 0) return 0;
        if (world.strips[channel].muted) return 1;
        if (world.elsewhereSoloed(channel)) return 2;
        return world.strips[channel].fader == 0 ? 3 : 4;
    }

    int path(int channel, int feed, int index) {
        if (!in(channel, 0, 11) || !in(feed, 0, 3) || index < -1) return INVALID;
        List<Integer> best = null;
        for (List<Integer> path : world.paths(channel, feed)) {
            List<Integer> channels = path.subList(0, path.size() - 1);
            if (best == null || comesFirst(channels, best)) best = channels;
        }
        if (best == null || index >= best.size()) return NONE;
        return index == -1 ? best.size() : best.get(index);
    }

    private static boolean comesFirst(List<Integer> one, List<Integer> other) {
        if (one.size() != other.size()) return one.size() < other.size();
        for (int index = 0; index < one.size(); index++) {
            int difference = one.get(index) - other.get(index);
            if (difference != 0) return difference < 0;
        }
        return false;
    }

    int loudest(int channel, int feed) {
        if (!in(channel, 0, 11) || !in(feed, 0, 3)) return INVALID;
        int most = NONE;
        for (List<Integer> path : world.paths(channel, feed)) most = Math.max(most, path.get(path.size() - 1));
        return most;
    }

    int loops() {
        int loops = 0;
        for (int feed = 0; feed < 4; feed++) {
            Integer back = world.lines[feed].back;
            if (back != null && !world.paths(back, feed).isEmpty()) loops += 1 << feed;
        }
        return loops;
    }

    int hearers(int feed) {
        return in(feed, 0, 3) ? world.hearers(feed) : INVALID;
    }

    int outputIn(int feed, int ticks) {
        if (!in(feed, 0, 3) || !in(ticks, 0, 100)) return INVALID;
        World later = world.copy();
        for (int tick = 0; tick < ticks; tick++) later.tick();
        return later.lines[feed].output;
    }

    int cut(int feed) {
        if (!in(feed, 0, 3)) return INVALID;
        if (world.hearers(feed) == 0) return ILLEGAL;
        for (int number = 0; number < 400; number++) {
            int sender = number % 100;
            if (sender >= 12) continue;
            World without = world.copy();
            without.lines[number / 100].send[sender] = 0;
            if (without.hearers(feed) == 0) return number;
        }
        return NONE;
    }
}
