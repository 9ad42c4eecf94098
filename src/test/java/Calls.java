/** Calls of EggSpoons by their names, so that tables of calls can be written. */
final class Calls {
    private Calls() {
    }

    static long on(EggSpoons x, String name, int... v) {
        return switch (name) {
            case "race" -> x.race(v[0]);
            case "one" -> x.one(v[0], v[1], v[2]);
            case "type" -> x.type(v[0]);
            case "clear" -> x.clear();
            case "read" -> x.read();
            case "ticks" -> x.ticks(v[0]);
            case "speed" -> x.speed(v[0], v[1]);
            case "start" -> x.start(v[0], v[1]);
            case "undo" -> x.undo();
            case "of" -> x.of(v[0], v[1]);
            case "where" -> x.where(v[0], v[1]);
            case "home" -> x.home(v[0]);
            case "first" -> x.first();
            case "order" -> x.order(v[0]);
            case "best" -> x.best(v[0], v[1]);
            case "turn" -> x.turn(v[0], v[1], v[2]);
            case "beats" -> x.beats(v[0], v[1]);
            case "close" -> x.close(v[0], v[1], v[2]);
            case "seen" -> x.seen(v[0], v[1], v[2], v[3]);
            case "strong" -> x.strong(v[0], v[1]);
            case "tell" -> x.tell(v[0]);
            case "note" -> x.note(v[0], v[1], v[2], v[3], v[4]);
            case "mark" -> x.mark(v[0], v[1], v[2]);
            case "forget" -> x.forget(v[0]);
            case "is" -> x.is(v[0]);
            case "look" -> x.look(v[0]);
            case "kinds" -> x.kinds(v[0]);
            case "ask" -> x.ask(v[0]);
            case "pair" -> x.pair(v[0], v[1], v[2]);
            case "stumble" -> x.stumble(v[0], v[1], v[2], v[3]);
            case "races" -> x.races(v[0], v[1]);
            case "part" -> x.part(v[0]);
            case "image" -> x.image(v[0]);
            case "from" -> x.from(v[0]);
            case "status" -> x.status(v[0]);
            case "count" -> x.count(v[0]);
            case "digest" -> x.digest();
            default -> throw new IllegalArgumentException(name);
        };
    }
}
