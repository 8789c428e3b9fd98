/** One call, or several of which the last one's answer counts. */
interface Call {
    int on(MuseumNights x);
}
