/** Calls that bring a new museum into the state in which a test begins. */
interface Acts {
    void on(MuseumNights x);

    default Acts then(Acts more) {
        return x -> {
            on(x);
            more.on(x);
        };
    }
}
