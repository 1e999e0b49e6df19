/**
 * All that can be read of an object, as a text: what is in the output, the network and the plough, the input and the
 * parse error, and each state that undo() brings back. Each part is read from an object of its own, because reading
 * one changes another and because an object is good for 512 calls.
 */
final class Story {
    interface Maker {
        SnowPlough make();
    }

    interface Part {
        String of(SnowPlough p);
    }

    private Story() {
    }

    static String whole(Maker maker) {
        return written(maker.make()) + "\n" + typed(maker.make()) + "\n" + state(maker);
    }

    /** Without the two buffers and the parse error: what undo() restores. */
    static String state(Maker maker) {
        return present(maker.make()) + "\n" + past(maker.make());
    }

    static String written(SnowPlough p) {
        StringBuilder text = new StringBuilder("output:");
        for (int i = 0; i < 400; i++) {
            try {
                text.append((char) p.outputByte(i));
            } catch (IndexOutOfBoundsException e) {
                return text.toString();
            }
        }
        return text.append("...").toString();
    }

    static String typed(SnowPlough p) {
        StringBuilder text = new StringBuilder("error:" + p.errorCode() + " at " + p.errorPosition() + ", input:");
        int length = lengthOfInput(p);
        text.append(length).append(" bytes, load ").append(p.load());
        text.append(' ').append(p.errorCode()).append(' ').append(p.errorPosition()).append(' ');
        return text.append(p.writeNetwork()).append(written(p)).toString();
    }

    /** Looks for it without a change: only the present length can be kept, and one more is refused. */
    static int lengthOfInput(SnowPlough p) {
        try {
            int length = p.append(0, 0, 0, 0, 0) - 20;
            p.truncate(length);
            return length;
        } catch (IllegalStateException e) {
            return lengthOfFullInput(p);
        }
    }

    private static int lengthOfFullInput(SnowPlough p) {
        for (int length = 1200; length > 1180; length--) {
            try {
                p.truncate(length);
                return length;
            } catch (IllegalArgumentException e) {
                continue;
            }
        }
        return -1;
    }

    static String present(SnowPlough p) {
        StringBuilder text = new StringBuilder("network:");
        add(text, p.nodeCount(), p.roadCount(), p.arcs(), p.centre(), p.saltNeeded(1), p.saltNeeded(2), p.saltNeeded(3));
        add(text, p.greedyTour(1), p.greedyTour(2), p.greedyTour(3), p.untouched(1), p.untouched(2), p.untouched(3));
        for (int kind = 0; kind < 4; kind++) {
            add(text, p.turnCost(kind), p.turnsMade(kind));
        }
        add(text, p.time(), p.position(), p.lastArc(), p.saltLeft(), p.fall(), p.saltUsed(), p.distance(), p.undoCount());
        for (int arc = 0; arc < 24; arc++) {
            if ((p.arcs() >> arc & 1) != 0) {
                text.append(" arc ").append(arc).append(':');
                int depth = p.depth(arc);
                add(text, p.arcStart(arc), p.arcEnd(arc), p.arcLength(arc), p.arcClass(arc), p.cycleCost(arc), depth);
                add(text, p.secondsToDepth(arc, Math.min(2000, depth + 1)), p.passes(arc));
            }
        }
        return text.toString();
    }

    /** The network is written at each step: an output that undo() would bring back is not looked at here. */
    static String past(SnowPlough p) {
        StringBuilder text = new StringBuilder("undo:" + p.undoCount());
        for (int i = 0; i < 12; i++) {
            try {
                text.append(" [").append(p.undo()).append(':');
            } catch (IllegalStateException e) {
                return text.append("no more").toString();
            }
            add(text, p.undoCount(), p.roadCount(), p.time(), p.position(), p.lastArc(), p.saltLeft(), p.saltUsed());
            add(text, p.fall(), p.distance(), p.untouched(3), (int) p.totalSnow(), p.saltNeeded(3), p.writeNetwork());
            text.append(']');
        }
        return text.append("more than 12").toString();
    }

    private static void add(StringBuilder text, int... values) {
        for (int value : values) {
            text.append(' ').append(value);
        }
    }
}
