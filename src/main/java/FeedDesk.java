/** A mixing desk, as ../shared/DOC.md promises it; the promises are named by their numbers below. */
public final class FeedDesk {
    public static final int INVALID_ARGUMENT = -1;
    public static final int ILLEGAL_STATE = -2;
    public static final int CAPACITY_EXCEEDED = -3;
    public static final int NONE = -99;

    private static final int CHANNELS = 12;
    private static final int GROUPS = 4;
    private static final int FEEDS = 4;
    private static final int SCENES = 6;

    /** The faders of all channels and behind them the masters of all groups: what a fade moves. */
    private static final int SLIDERS = CHANNELS + GROUPS;
    /** A scene keeps the sliders, and behind them the muted channels as a bit mask. */
    private static final int SCENE_SIZE = SLIDERS + 1;

    private static final int FULL = 100;
    private static final int SIGNAL_MOST = 9999;
    private static final int RUN_MOST = 100;
    private static final int TICKS_MOST = 10000;
    private static final int HISTORY_MOST = 5;
    private static final int TEXT_MOST = 140;
    private static final int CHARACTER_MOST = 255;
    private static final int TEXT_ERROR = -1000;

    private static final int INPUT = 0;
    private static final int FADER = 1;
    private static final int MUTE = 2;
    private static final int SAFE = 3;
    private static final int GROUP_SET = 4;
    /** The greatest value of each property that setChannel() sets. */
    private static final int[] CHANNEL_MOST = {1000, FULL, 1, 1, 15};
    /** The letter of each property that setChannel() sets, in a patch. */
    private static final String CHANNEL_LETTERS = "ifmsg";

    private static final int MASTER = 0;
    private static final int SOLO = 1;
    /** The greatest value of each property that setGroup() sets. */
    private static final int[] GROUP_MOST = {FULL, 1};

    private final State now = new State();
    /** A state to try things on: what would be, and a patch that may yet turn out to have an error. */
    private final State trial = new State();
    private final History history = new History();
    private final Routes routes = new Routes(now);
    private final Patch patch = new Patch();

    /** Promise 1. */
    public FeedDesk() {
    }

    // ---- channels and groups

    /** Promise 2. */
    public int setChannel(int channel, int what, int value) {
        if (!isBelow(channel, CHANNELS) || !isBelow(what, CHANNEL_MOST.length)) return INVALID_ARGUMENT;
        if (!isWithin(value, 0, CHANNEL_MOST[what])) return INVALID_ARGUMENT;
        history.keep(now);
        int previous = now.channelProperty(channel, what);
        now.setChannelByHand(channel, what, value);
        return previous;
    }

    /** Promise 3. */
    public int setGroup(int group, int what, int value) {
        if (!isBelow(group, GROUPS) || !isBelow(what, GROUP_MOST.length)) return INVALID_ARGUMENT;
        if (!isWithin(value, 0, GROUP_MOST[what])) return INVALID_ARGUMENT;
        history.keep(now);
        int previous = now.groupProperty(group, what);
        now.setGroupByHand(group, what, value);
        return previous;
    }

    // ---- feeds

    /** Promise 4. */
    public int setSend(int feed, int channel, int send) {
        if (!isBelow(feed, FEEDS) || !isBelow(channel, CHANNELS)) return INVALID_ARGUMENT;
        if (!isWithin(send, 0, FULL)) return INVALID_ARGUMENT;
        history.keep(now);
        int previous = now.sends[sendIndex(feed, channel)];
        now.sends[sendIndex(feed, channel)] = send;
        return previous;
    }

    /** Promise 5. */
    public int setOwner(int feed, int channel, int is) {
        if (!isBelow(feed, FEEDS) || !isBelow(channel, CHANNELS)) return INVALID_ARGUMENT;
        if (!isWithin(is, 0, 1)) return INVALID_ARGUMENT;
        history.keep(now);
        now.owners[feed] = withBit(now.owners[feed], channel, is);
        return Integer.bitCount(now.owners[feed]);
    }

    /** Promise 6. */
    public int setReturn(int feed, int channel) {
        if (!isBelow(feed, FEEDS) || !isWithin(channel, -1, CHANNELS - 1)) return INVALID_ARGUMENT;
        int holder = now.feedBackInto(channel);
        if (holder != NONE && holder != feed) return ILLEGAL_STATE;
        history.keep(now);
        int previous = now.returns[feed];
        now.returns[feed] = channel;
        return previous;
    }

    // ---- scenes and ticks

    /** Promise 7. */
    public int store(int scene) {
        if (!isBelow(scene, SCENES)) return INVALID_ARGUMENT;
        history.keep(now);
        now.keepScene(scene);
        return Integer.bitCount(now.stored);
    }

    /** Promise 8. */
    public int recall(int scene, int ticks) {
        if (!isBelow(scene, SCENES) || !isWithin(ticks, 0, RUN_MOST)) return INVALID_ARGUMENT;
        if (!hasBit(now.stored, scene)) return ILLEGAL_STATE;
        history.keep(now);
        int different = now.slidersUnlike(scene);
        now.beginFade(scene, ticks);
        return different;
    }

    /** Promise 9. */
    public int run(int ticks) {
        if (!isWithin(ticks, 1, RUN_MOST)) return INVALID_ARGUMENT;
        if (now.ticks + ticks > TICKS_MOST) return CAPACITY_EXCEEDED;
        history.keep(now);
        now.goOn(ticks);
        return now.mainSum;
    }

    /** Promise 10. */
    public int reset() {
        history.keep(now);
        int previous = now.peak;
        now.peak = 0;
        now.clips = 0;
        return previous;
    }

    /** Promise 11. */
    public int undo() {
        if (history.size == 0) return ILLEGAL_STATE;
        history.restoreInto(now);
        return history.size;
    }

    // ---- text

    /** Promise 12. */
    public int append(int character) {
        if (!isWithin(character, 1, CHARACTER_MOST)) return INVALID_ARGUMENT;
        if (patch.length >= TEXT_MOST) return CAPACITY_EXCEEDED;
        patch.add((char) character);
        return patch.length;
    }

    /** Promise 13. */
    public int clearText() {
        int previous = patch.length;
        patch.length = 0;
        return previous;
    }

    /** Promise 14. */
    public int load() {
        trial.copyFrom(now);
        int items = patch.carryOutOn(trial);
        if (items < 0) return items;
        history.keep(now);
        now.copyFrom(trial);
        patch.length = 0;
        return items;
    }

    // ---- looking

    /** Promise 15. */
    public int count(int what) {
        switch (what) {
            case 0: return now.ticks;
            case 1: return now.mainSum;
            case 2: return now.peak;
            case 3: return now.clips;
            case 4: return now.fade.isGoingOn() ? now.fade.step : NONE;
            case 5: return now.fade.isGoingOn() ? now.fade.ticks : NONE;
            case 6: return Integer.bitCount(now.stored);
            case 7: return now.soloed;
            case 8: return now.audibleChannels();
            case 9: return history.size;
            case 10: return patch.length;
            default: return INVALID_ARGUMENT;
        }
    }

    /** Promise 16. */
    public int channel(int channel, int what) {
        if (!isBelow(channel, CHANNELS)) return INVALID_ARGUMENT;
        if (isBelow(what, CHANNEL_MOST.length)) return now.channelProperty(channel, what);
        switch (what) {
            case 5: return now.levelOf(channel);
            case 6: return now.signal[channel];
            case 7: return now.fade.isTouched(channel) ? 1 : 0;
            case 8: return now.feedBackInto(channel);
            default: return INVALID_ARGUMENT;
        }
    }

    /** Promise 17. */
    public int group(int group, int what) {
        if (!isBelow(group, GROUPS)) return INVALID_ARGUMENT;
        if (isBelow(what, GROUP_MOST.length)) return now.groupProperty(group, what);
        switch (what) {
            case 2: return now.membersOf(group);
            case 3: return now.fade.isTouched(CHANNELS + group) ? 1 : 0;
            default: return INVALID_ARGUMENT;
        }
    }

    /** Promise 18. */
    public int feed(int feed, int what) {
        if (!isBelow(feed, FEEDS)) return INVALID_ARGUMENT;
        switch (what) {
            case 0: return now.owners[feed];
            case 1: return now.returns[feed] < 0 ? NONE : now.returns[feed];
            case 2: return now.output[feed];
            case 3: return now.channelsReaching(feed);
            default: return INVALID_ARGUMENT;
        }
    }

    /** Promise 19. */
    public int send(int feed, int channel, int what) {
        if (!isBelow(feed, FEEDS) || !isBelow(channel, CHANNELS)) return INVALID_ARGUMENT;
        switch (what) {
            case 0: return now.sends[sendIndex(feed, channel)];
            case 1: return now.gainOf(feed, channel);
            default: return INVALID_ARGUMENT;
        }
    }

    /** Promise 20. */
    public int scene(int scene, int index) {
        if (!isBelow(scene, SCENES) || !isBelow(index, SCENE_SIZE)) return INVALID_ARGUMENT;
        if (!hasBit(now.stored, scene)) return NONE;
        return now.scenes[scene * SCENE_SIZE + index];
    }

    // ---- reasons, paths, and what would be, which changes nothing

    /** Promise 21. */
    public int why(int channel) {
        if (!isBelow(channel, CHANNELS)) return INVALID_ARGUMENT;
        if (now.levelOf(channel) > 0) return 0;
        if (hasBit(now.muted, channel)) return 1;
        if (now.isSoloedAway(channel)) return 2;
        if (now.sliders[channel] == 0) return 3;
        return 4;
    }

    /** Promise 22. */
    public int path(int channel, int feed, int index) {
        if (!isBelow(channel, CHANNELS) || !isBelow(feed, FEEDS) || index < -1) return INVALID_ARGUMENT;
        routes.survey();
        return routes.shortest(channel, feed, index);
    }

    /** Promise 23. */
    public int loudest(int channel, int feed) {
        if (!isBelow(channel, CHANNELS) || !isBelow(feed, FEEDS)) return INVALID_ARGUMENT;
        return routes.greatestGain(channel, feed);
    }

    /** Promise 24. */
    public int loops() {
        routes.survey();
        return routes.feedsHearingBack();
    }

    /** Promise 25. */
    public int hearers(int feed) {
        if (!isBelow(feed, FEEDS)) return INVALID_ARGUMENT;
        routes.survey();
        return routes.ownersHearing(feed);
    }

    /** Promise 26. */
    public int outputIn(int feed, int ticks) {
        if (!isBelow(feed, FEEDS) || !isWithin(ticks, 0, RUN_MOST)) return INVALID_ARGUMENT;
        trial.copyFrom(now);
        trial.goOn(ticks);
        return trial.output[feed];
    }

    /** Promise 27. */
    public int cut(int feed) {
        if (!isBelow(feed, FEEDS)) return INVALID_ARGUMENT;
        routes.survey();
        if (routes.ownersHearing(feed) == 0) return ILLEGAL_STATE;
        return routes.sendToCut(feed);
    }

    // ---- small help

    private static boolean isWithin(int value, int least, int most) {
        return value >= least && value <= most;
    }

    private static boolean isBelow(int value, int end) {
        return value >= 0 && value < end;
    }

    private static boolean hasBit(int mask, int bit) {
        return ((mask >> bit) & 1) == 1;
    }

    private static int withBit(int mask, int bit, int is) {
        return is == 1 ? mask | (1 << bit) : mask & ~(1 << bit);
    }

    private static int sendIndex(int feed, int channel) {
        return feed * CHANNELS + channel;
    }

    /** A fade that is going on, or none. */
    private static final class Fade {
        private int target;
        private int step;
        /** 0 while no fade is going on. */
        private int ticks;
        /** The sliders that were touched; the bit of a channel's fader stands for its mute, too. */
        private int touched;
        /** What each slider was when the fade began. */
        private final int[] from = new int[SLIDERS];

        void copyFrom(Fade other) {
            target = other.target;
            step = other.step;
            ticks = other.ticks;
            touched = other.touched;
            System.arraycopy(other.from, 0, from, 0, SLIDERS);
        }

        void begin(int scene, int length, int[] sliders) {
            target = scene;
            step = 0;
            ticks = length;
            touched = 0;
            System.arraycopy(sliders, 0, from, 0, SLIDERS);
        }

        void end() {
            step = 0;
            ticks = 0;
            touched = 0;
        }

        boolean isGoingOn() {
            return ticks > 0;
        }

        void touch(int slider) {
            if (isGoingOn()) touched |= 1 << slider;
        }

        boolean isTouched(int slider) {
            return hasBit(touched, slider);
        }

        boolean isInTheMiddle() {
            return 2 * step == ticks || 2 * step == ticks + 1;
        }

        /** Where an untouched slider stands in this step, on its way to the goal. */
        int positionOf(int slider, int goal) {
            if (ticks <= 0) return goal;
            return from[slider] + (goal - from[slider]) * step / ticks;
        }
    }

    /** All that undo() brings back. */
    private static final class State {
        private final int[] input = new int[CHANNELS];
        private final int[] sliders = new int[SLIDERS];
        private final int[] groups = new int[CHANNELS];
        private int muted;
        private int safe;
        private int soloed;
        private final int[] sends = new int[FEEDS * CHANNELS];
        private final int[] owners = new int[FEEDS];
        /** The channel into which each feed comes back, or -1. */
        private final int[] returns = new int[FEEDS];
        private final int[] signal = new int[CHANNELS];
        private final int[] output = new int[FEEDS];
        private int ticks;
        private int mainSum;
        private int peak;
        private int clips;
        private final int[] scenes = new int[SCENES * SCENE_SIZE];
        /** The scenes that are not empty, as a bit mask. */
        private int stored;
        private final Fade fade = new Fade();

        State() {
            for (int group = 0; group < GROUPS; group++) sliders[CHANNELS + group] = FULL;
            for (int feed = 0; feed < FEEDS; feed++) returns[feed] = -1;
        }

        void copyFrom(State other) {
            System.arraycopy(other.input, 0, input, 0, CHANNELS);
            System.arraycopy(other.sliders, 0, sliders, 0, SLIDERS);
            System.arraycopy(other.groups, 0, groups, 0, CHANNELS);
            muted = other.muted;
            safe = other.safe;
            soloed = other.soloed;
            System.arraycopy(other.sends, 0, sends, 0, FEEDS * CHANNELS);
            System.arraycopy(other.owners, 0, owners, 0, FEEDS);
            System.arraycopy(other.returns, 0, returns, 0, FEEDS);
            System.arraycopy(other.signal, 0, signal, 0, CHANNELS);
            System.arraycopy(other.output, 0, output, 0, FEEDS);
            ticks = other.ticks;
            mainSum = other.mainSum;
            peak = other.peak;
            clips = other.clips;
            System.arraycopy(other.scenes, 0, scenes, 0, SCENES * SCENE_SIZE);
            stored = other.stored;
            fade.copyFrom(other.fade);
        }

        int channelProperty(int channel, int what) {
            switch (what) {
                case INPUT: return input[channel];
                case FADER: return sliders[channel];
                case MUTE: return hasBit(muted, channel) ? 1 : 0;
                case SAFE: return hasBit(safe, channel) ? 1 : 0;
                default: return groups[channel];
            }
        }

        void setChannelByHand(int channel, int what, int value) {
            switch (what) {
                case INPUT: input[channel] = value; break;
                case FADER: sliders[channel] = value; break;
                case MUTE: muted = withBit(muted, channel, value); break;
                case SAFE: safe = withBit(safe, channel, value); break;
                default: groups[channel] = value; break;
            }
            if (what == FADER || what == MUTE) fade.touch(channel);
        }

        int groupProperty(int group, int what) {
            if (what == MASTER) return sliders[CHANNELS + group];
            return hasBit(soloed, group) ? 1 : 0;
        }

        void setGroupByHand(int group, int what, int value) {
            if (what == SOLO) {
                soloed = withBit(soloed, group, value);
                return;
            }
            sliders[CHANNELS + group] = value;
            fade.touch(CHANNELS + group);
        }

        int membersOf(int group) {
            int members = 0;
            for (int channel = 0; channel < CHANNELS; channel++) {
                if (hasBit(groups[channel], group)) members++;
            }
            return members;
        }

        /** The feed that comes back into a channel, or NONE; -1 stands for no channel. */
        int feedBackInto(int channel) {
            if (channel < 0) return NONE;
            for (int feed = 0; feed < FEEDS; feed++) {
                if (returns[feed] == channel) return feed;
            }
            return NONE;
        }

        boolean isSoloedAway(int channel) {
            return soloed != 0 && !hasBit(safe, channel) && (groups[channel] & soloed) == 0;
        }

        int levelOf(int channel) {
            if (hasBit(muted, channel) || isSoloedAway(channel)) return 0;
            int level = sliders[channel];
            for (int group = 0; group < GROUPS; group++) {
                if (hasBit(groups[channel], group)) level = level * sliders[CHANNELS + group] / FULL;
            }
            return level;
        }

        int audibleChannels() {
            int audible = 0;
            for (int channel = 0; channel < CHANNELS; channel++) {
                if (levelOf(channel) > 0) audible |= 1 << channel;
            }
            return audible;
        }

        int gainOf(int feed, int channel) {
            return gainAt(feed, channel, levelOf(channel));
        }

        private int gainAt(int feed, int channel, int level) {
            if (hasBit(owners[feed], channel)) return 0;
            return level * sends[sendIndex(feed, channel)] / FULL;
        }

        int channelsReaching(int feed) {
            int reaching = 0;
            for (int channel = 0; channel < CHANNELS; channel++) {
                if (gainOf(feed, channel) > 0) reaching |= 1 << channel;
            }
            return reaching;
        }

        void keepScene(int scene) {
            System.arraycopy(sliders, 0, scenes, scene * SCENE_SIZE, SLIDERS);
            scenes[scene * SCENE_SIZE + SLIDERS] = muted;
            stored |= 1 << scene;
        }

        int slidersUnlike(int scene) {
            int different = 0;
            for (int slider = 0; slider < SLIDERS; slider++) {
                if (sliders[slider] != scenes[scene * SCENE_SIZE + slider]) different++;
            }
            return different;
        }

        void beginFade(int scene, int length) {
            if (length > 0) {
                fade.begin(scene, length, sliders);
                return;
            }
            fade.end();
            System.arraycopy(scenes, scene * SCENE_SIZE, sliders, 0, SLIDERS);
            muted = scenes[scene * SCENE_SIZE + SLIDERS];
        }

        void goOn(int count) {
            for (int done = 0; done < count; done++) {
                if (fade.isGoingOn()) stepFade();
                takeSignals();
                mix();
                ticks++;
            }
        }

        /** Looks into the scene at each step: its words speak of what the scene keeps, not of what it kept. */
        private void stepFade() {
            int base = fade.target * SCENE_SIZE;
            fade.step++;
            for (int slider = 0; slider < SLIDERS; slider++) {
                if (!fade.isTouched(slider)) sliders[slider] = fade.positionOf(slider, scenes[base + slider]);
            }
            if (fade.isInTheMiddle()) {
                muted = (muted & fade.touched) | (scenes[base + SLIDERS] & ~fade.touched);
            }
            if (fade.step >= fade.ticks) fade.end();
        }

        /** Comes ahead of mix(), so that the outputs are still those of the tick before. */
        private void takeSignals() {
            System.arraycopy(input, 0, signal, 0, CHANNELS);
            for (int feed = 0; feed < FEEDS; feed++) {
                int channel = returns[feed];
                if (channel >= 0) signal[channel] = Math.min(signal[channel] + output[feed], SIGNAL_MOST);
            }
        }

        private void mix() {
            for (int feed = 0; feed < FEEDS; feed++) output[feed] = 0;
            mainSum = 0;
            for (int channel = 0; channel < CHANNELS; channel++) {
                int level = levelOf(channel);
                mainSum += signal[channel] * level / FULL;
                for (int feed = 0; feed < FEEDS; feed++) {
                    output[feed] += signal[channel] * gainAt(feed, channel, level) / FULL;
                }
            }
            clip();
            peak = Math.max(peak, mainSum);
        }

        private void clip() {
            for (int feed = 0; feed < FEEDS; feed++) {
                if (output[feed] > SIGNAL_MOST) {
                    output[feed] = SIGNAL_MOST;
                    clips++;
                }
            }
        }
    }

    /** The states for undo(), in rows that are used again, so that no call makes an object. */
    private static final class History {
        private final State[] kept = new State[HISTORY_MOST];
        /** The place of the next state: behind the latest one and, once all are taken, that of the oldest. */
        private int next;
        private int size;

        History() {
            for (int place = 0; place < HISTORY_MOST; place++) kept[place] = new State();
        }

        void keep(State state) {
            kept[next].copyFrom(state);
            next = (next + 1) % HISTORY_MOST;
            size = Math.min(size + 1, HISTORY_MOST);
        }

        void restoreInto(State state) {
            next = (next + HISTORY_MOST - 1) % HISTORY_MOST;
            size--;
            state.copyFrom(kept[next]);
        }
    }

    /**
     * The ways from channels to feeds. A way on which a feed comes twice can be shortened by what lies
     * between, which makes it neither longer nor softer: so these look at all ways of up to FEEDS steps.
     */
    private static final class Routes {
        private final State desk;
        /** The feeds that each channel reaches in one step, as bit masks, as survey() found them. */
        private final int[] reached = new int[CHANNELS];
        /** The length of the shortest path of each channel to a feed, 0 without one. */
        private final int[] distance = new int[CHANNELS];
        /** The greatest gain so far of a path to each feed, NONE without one. */
        private final int[] best = new int[FEEDS];

        Routes(State desk) {
            this.desk = desk;
        }

        void survey() {
            for (int channel = 0; channel < CHANNELS; channel++) {
                reached[channel] = 0;
                for (int feed = 0; feed < FEEDS; feed++) {
                    if (desk.gainOf(feed, channel) > 0) reached[channel] |= 1 << feed;
                }
            }
        }

        /** The feeds to which there is a path from a channel, as a bit mask. */
        private int feedsFrom(int channel) {
            int found = reached[channel];
            for (int length = 2; length <= FEEDS; length++) {
                for (int feed = 0; feed < FEEDS; feed++) {
                    int next = desk.returns[feed];
                    if (hasBit(found, feed) && next >= 0) found |= reached[next];
                }
            }
            return found;
        }

        int feedsHearingBack() {
            int hearing = 0;
            for (int feed = 0; feed < FEEDS; feed++) {
                int channel = desk.returns[feed];
                if (channel >= 0 && hasBit(feedsFrom(channel), feed)) hearing |= 1 << feed;
            }
            return hearing;
        }

        int ownersHearing(int feed) {
            int hearing = 0;
            for (int channel = 0; channel < CHANNELS; channel++) {
                boolean isOwner = hasBit(desk.owners[feed], channel);
                if (isOwner && hasBit(feedsFrom(channel), feed)) hearing |= 1 << channel;
            }
            return hearing;
        }

        /** The first send without which no owner of a feed would hear itself, or NONE. */
        int sendToCut(int feed) {
            for (int sent = 0; sent < FEEDS; sent++) {
                for (int channel = 0; channel < CHANNELS; channel++) {
                    if (hasBit(reached[channel], sent) && isSilentWithout(sent, channel, feed)) {
                        return 100 * sent + channel;
                    }
                }
            }
            return NONE;
        }

        private boolean isSilentWithout(int sent, int channel, int feed) {
            reached[channel] = withBit(reached[channel], sent, 0);
            boolean isSilent = ownersHearing(feed) == 0;
            reached[channel] = withBit(reached[channel], sent, 1);
            return isSilent;
        }

        /** The length (index -1) or a channel of the shortest path, or NONE. */
        int shortest(int channel, int feed, int index) {
            measure(feed);
            int length = distance[channel];
            if (length == 0 || index >= length) return NONE;
            if (index < 0) return length;
            int here = channel;
            for (int left = length - 1; left >= length - index; left--) {
                int next = nextAt(here, left);
                if (next < 0) return NONE;
                here = next;
            }
            return here;
        }

        private void measure(int feed) {
            for (int channel = 0; channel < CHANNELS; channel++) {
                distance[channel] = hasBit(reached[channel], feed) ? 1 : 0;
            }
            for (int length = 2; length <= FEEDS; length++) {
                for (int channel = 0; channel < CHANNELS; channel++) {
                    if (distance[channel] == 0 && nextAt(channel, length - 1) >= 0) distance[channel] = length;
                }
            }
        }

        /** The smallest channel at a distance that comes next behind a channel, or -1. */
        private int nextAt(int channel, int left) {
            int smallest = -1;
            for (int feed = 0; feed < FEEDS; feed++) {
                int next = desk.returns[feed];
                if (hasBit(reached[channel], feed) && next >= 0 && distance[next] == left) {
                    if (smallest < 0 || next < smallest) smallest = next;
                }
            }
            return smallest;
        }

        int greatestGain(int channel, int feed) {
            for (int other = 0; other < FEEDS; other++) best[other] = NONE;
            spread(channel, FULL);
            for (int length = 2; length <= FEEDS; length++) {
                for (int passed = 0; passed < FEEDS; passed++) {
                    int next = desk.returns[passed];
                    if (best[passed] != NONE && next >= 0) spread(next, best[passed]);
                }
            }
            return best[feed];
        }

        private void spread(int channel, int gain) {
            for (int feed = 0; feed < FEEDS; feed++) {
                int step = desk.gainOf(feed, channel);
                if (step > 0) best[feed] = Math.max(best[feed], gain * step / FULL);
            }
        }
    }

    /**
     * The text and its reader. What reads a part answers false (or -1) if it finds an error, and leaves
     * the error position in at.
     */
    private static final class Patch {
        private static final int MISSING = -1;
        /** Numbers are held at this while more digits follow; it is beyond every range. */
        private static final int TOO_GREAT = 9999;

        private final char[] text = new char[TEXT_MOST];
        private int length;
        /** The offset of the next character to be read. */
        private int at;

        void add(char character) {
            if (length >= TEXT_MOST) return;
            text[length] = character;
            length++;
        }

        /** Returns the number of items, or TEXT_ERROR minus the error position. */
        int carryOutOn(State desk) {
            at = 0;
            for (int items = 0; items < TEXT_MOST; items++) {
                skipSpaces();
                if (at >= length) return items;
                if (!readItem(desk)) break;
            }
            return TEXT_ERROR - at;
        }

        private boolean readItem(State desk) {
            if (takes('c')) return readChannelItem(desk);
            if (takes('x')) return readFeedItem(desk);
            return false;
        }

        private boolean readChannelItem(State desk) {
            int channel = readNumber(CHANNELS - 1);
            if (channel == MISSING) return false;
            int told = 0;
            for (int count = 0; count <= CHANNEL_MOST.length; count++) {
                if (count > 0 && takes(';')) return true;
                int what = readLetter(told);
                if (what == MISSING) return false;
                int value = readValue(what);
                if (value == MISSING) return false;
                desk.setChannelByHand(channel, what, value);
                told |= 1 << what;
            }
            return false;
        }

        /** Reads the letter of a property that has not been told yet. */
        private int readLetter(int told) {
            skipSpaces();
            int what = at < length ? CHANNEL_LETTERS.indexOf(text[at]) : MISSING;
            if (what < 0 || hasBit(told, what)) return MISSING;
            at++;
            return what;
        }

        private int readValue(int what) {
            switch (what) {
                case INPUT: return readNumber(CHANNEL_MOST[INPUT]);
                case FADER: return readNumber(CHANNEL_MOST[FADER]);
                case GROUP_SET: return readGroups();
                default: return 1;
            }
        }

        private int readGroups() {
            skipSpaces();
            int set = 0;
            for (; at < length; at++) {
                int group = text[at] - '0';
                if (!isBelow(group, GROUPS) || hasBit(set, group)) break;
                set |= 1 << group;
            }
            return set == 0 ? MISSING : set;
        }

        private boolean readFeedItem(State desk) {
            int feed = readNumber(FEEDS - 1);
            if (feed == MISSING || !takes(':')) return false;
            if (takes(';')) return true;
            for (int count = 0; count < TEXT_MOST; count++) {
                if (!readSend(desk, feed)) return false;
                if (takes(';')) return true;
                if (!takes(',')) return false;
            }
            return false;
        }

        private boolean readSend(State desk, int feed) {
            int channel = readNumber(CHANNELS - 1);
            if (channel == MISSING || !takes('=')) return false;
            int send = readNumber(FULL);
            if (send == MISSING) return false;
            desk.sends[sendIndex(feed, channel)] = send;
            return true;
        }

        private int readNumber(int most) {
            skipSpaces();
            int first = at;
            int value = 0;
            for (; at < length; at++) {
                int digit = text[at] - '0';
                if (!isBelow(digit, 10)) break;
                value = Math.min(10 * value + digit, TOO_GREAT);
            }
            if (at == first) return MISSING;
            boolean hasZeroAhead = at - first > 1 && text[first] == '0';
            if (value <= most && !hasZeroAhead) return value;
            at = first;
            return MISSING;
        }

        private boolean takes(char expected) {
            skipSpaces();
            if (at >= length || text[at] != expected) return false;
            at++;
            return true;
        }

        private void skipSpaces() {
            while (at < length && text[at] == ' ') at++;
        }
    }
}
