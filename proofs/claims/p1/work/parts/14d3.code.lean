def kL_48 : Ci_t := [(2204, .aload_n 1, 1), (2205, .aload_n 0, 1), (2206, .iload_n 3, 1), (2207, .iconst 1, 1), (2208, .iadd, 1), (2209, .iaload, 1), (2210, .aload_n 0, 1), (2211, .iload_n 3, 1), (2212, .iconst 2, 1), (2213, .iadd, 1), (2214, .iaload, 1), (2215, .aload_n 0, 1), (2216, .iload_n 3, 1), (2217, .iconst 3, 1), (2218, .iadd, 1), (2219, .iaload, 1), (2220, .aload_n 0, 1), (2221, .iload_n 3, 1), (2222, .iconst 4, 1), (2223, .iadd, 1), (2224, .iaload, 1), (2225, .invokevirtual 208, 3), (2228, .aload_n 2, 1), (2229, .aload_n 0, 1), (2230, .iload_n 3, 1), (2231, .iconst 1, 1), (2232, .iadd, 1), (2233, .iaload, 1), (2234, .aload_n 0, 1), (2235, .iload_n 3, 1), (2236, .iconst 2, 1), (2237, .iadd, 1), (2238, .iaload, 1), (2239, .aload_n 0, 1), (2240, .iload_n 3, 1), (2241, .iconst 3, 1), (2242, .iadd, 1), (2243, .iaload, 1), (2244, .aload_n 0, 1), (2245, .iload_n 3, 1), (2246, .iconst 4, 1), (2247, .iadd, 1), (2248, .iaload, 1), (2249, .invokevirtual 211, 3), (2252, .if_icmp .eq 554, 3), (2255, .iconst 0, 1), (2256, .ireturn, 1)]
set_option maxRecDepth 1000000 in
theorem eL_48 : ∀ q ∈ kL_48, decode cL_law q.1 = .ok q.2 := by decide +kernel
set_option maxRecDepth 1000000 in
theorem oL_48 : ck_ knL kL_48 = true := by decide +kernel
def kL_49 : Ci_t := [(2257, .aload_n 1, 1), (2258, .aload_n 0, 1), (2259, .iload_n 3, 1), (2260, .iconst 1, 1), (2261, .iadd, 1), (2262, .iaload, 1), (2263, .aload_n 0, 1), (2264, .iload_n 3, 1), (2265, .iconst 2, 1), (2266, .iadd, 1), (2267, .iaload, 1), (2268, .aload_n 0, 1), (2269, .iload_n 3, 1), (2270, .iconst 3, 1), (2271, .iadd, 1), (2272, .iaload, 1), (2273, .aload_n 0, 1), (2274, .iload_n 3, 1), (2275, .iconst 4, 1), (2276, .iadd, 1), (2277, .iaload, 1), (2278, .invokevirtual 212, 3), (2281, .aload_n 2, 1), (2282, .aload_n 0, 1), (2283, .iload_n 3, 1), (2284, .iconst 1, 1), (2285, .iadd, 1), (2286, .iaload, 1), (2287, .aload_n 0, 1), (2288, .iload_n 3, 1), (2289, .iconst 2, 1), (2290, .iadd, 1), (2291, .iaload, 1), (2292, .aload_n 0, 1), (2293, .iload_n 3, 1), (2294, .iconst 3, 1), (2295, .iadd, 1), (2296, .iaload, 1), (2297, .aload_n 0, 1), (2298, .iload_n 3, 1), (2299, .iconst 4, 1), (2300, .iadd, 1), (2301, .iaload, 1), (2302, .invokevirtual 215, 3), (2305, .if_icmp .eq 501, 3), (2308, .iconst 0, 1), (2309, .ireturn, 1)]
set_option maxRecDepth 1000000 in
theorem eL_49 : ∀ q ∈ kL_49, decode cL_law q.1 = .ok q.2 := by decide +kernel
set_option maxRecDepth 1000000 in
theorem oL_49 : ck_ knL kL_49 = true := by decide +kernel
def kL_50 : Ci_t := [(2310, .aload_n 1, 1), (2311, .aload_n 0, 1), (2312, .iload_n 3, 1), (2313, .iconst 1, 1), (2314, .iadd, 1), (2315, .iaload, 1), (2316, .aload_n 0, 1), (2317, .iload_n 3, 1), (2318, .iconst 2, 1), (2319, .iadd, 1), (2320, .iaload, 1), (2321, .aload_n 0, 1), (2322, .iload_n 3, 1), (2323, .iconst 3, 1), (2324, .iadd, 1), (2325, .iaload, 1), (2326, .aload_n 0, 1), (2327, .iload_n 3, 1), (2328, .iconst 4, 1), (2329, .iadd, 1), (2330, .iaload, 1), (2331, .invokevirtual 216, 3), (2334, .aload_n 2, 1), (2335, .aload_n 0, 1), (2336, .iload_n 3, 1), (2337, .iconst 1, 1), (2338, .iadd, 1), (2339, .iaload, 1), (2340, .aload_n 0, 1), (2341, .iload_n 3, 1), (2342, .iconst 2, 1), (2343, .iadd, 1), (2344, .iaload, 1), (2345, .aload_n 0, 1), (2346, .iload_n 3, 1), (2347, .iconst 3, 1), (2348, .iadd, 1), (2349, .iaload, 1), (2350, .aload_n 0, 1), (2351, .iload_n 3, 1), (2352, .iconst 4, 1), (2353, .iadd, 1), (2354, .iaload, 1), (2355, .invokevirtual 219, 3), (2358, .if_icmp .eq 448, 3), (2361, .iconst 0, 1), (2362, .ireturn, 1)]
set_option maxRecDepth 1000000 in
theorem eL_50 : ∀ q ∈ kL_50, decode cL_law q.1 = .ok q.2 := by decide +kernel
set_option maxRecDepth 1000000 in
theorem oL_50 : ck_ knL kL_50 = true := by decide +kernel
def kL_51 : Ci_t := [(2363, .aload_n 1, 1), (2364, .aload_n 0, 1), (2365, .iload_n 3, 1), (2366, .iconst 1, 1), (2367, .iadd, 1), (2368, .iaload, 1), (2369, .aload_n 0, 1), (2370, .iload_n 3, 1), (2371, .iconst 2, 1), (2372, .iadd, 1), (2373, .iaload, 1), (2374, .aload_n 0, 1), (2375, .iload_n 3, 1), (2376, .iconst 3, 1), (2377, .iadd, 1), (2378, .iaload, 1), (2379, .invokevirtual 220, 3), (2382, .aload_n 2, 1), (2383, .aload_n 0, 1), (2384, .iload_n 3, 1), (2385, .iconst 1, 1), (2386, .iadd, 1), (2387, .iaload, 1), (2388, .aload_n 0, 1), (2389, .iload_n 3, 1), (2390, .iconst 2, 1), (2391, .iadd, 1), (2392, .iaload, 1), (2393, .aload_n 0, 1), (2394, .iload_n 3, 1), (2395, .iconst 3, 1), (2396, .iadd, 1), (2397, .iaload, 1), (2398, .invokevirtual 223, 3), (2401, .if_icmp .eq 405, 3), (2404, .iconst 0, 1), (2405, .ireturn, 1)]
set_option maxRecDepth 1000000 in
theorem eL_51 : ∀ q ∈ kL_51, decode cL_law q.1 = .ok q.2 := by decide +kernel
set_option maxRecDepth 1000000 in
theorem oL_51 : ck_ knL kL_51 = true := by decide +kernel
def kL_52 : Ci_t := [(2406, .aload_n 1, 1), (2407, .aload_n 0, 1), (2408, .iload_n 3, 1), (2409, .iconst 1, 1), (2410, .iadd, 1), (2411, .iaload, 1), (2412, .invokevirtual 224, 3), (2415, .aload_n 2, 1), (2416, .aload_n 0, 1), (2417, .iload_n 3, 1), (2418, .iconst 1, 1), (2419, .iadd, 1), (2420, .iaload, 1), (2421, .invokevirtual 227, 3), (2424, .if_icmp .eq 382, 3), (2427, .iconst 0, 1), (2428, .ireturn, 1)]
set_option maxRecDepth 1000000 in
theorem eL_52 : ∀ q ∈ kL_52, decode cL_law q.1 = .ok q.2 := by decide +kernel
set_option maxRecDepth 1000000 in
theorem oL_52 : ck_ knL kL_52 = true := by decide +kernel
def kL_53 : Ci_t := [(2429, .aload_n 1, 1), (2430, .invokevirtual 228, 3), (2433, .aload_n 2, 1), (2434, .invokevirtual 231, 3), (2437, .if_icmp .eq 369, 3), (2440, .iconst 0, 1), (2441, .ireturn, 1)]
set_option maxRecDepth 1000000 in
theorem eL_53 : ∀ q ∈ kL_53, decode cL_law q.1 = .ok q.2 := by decide +kernel
set_option maxRecDepth 1000000 in
theorem oL_53 : ck_ knL kL_53 = true := by decide +kernel
def kL_54 : Ci_t := [(2442, .aload_n 1, 1), (2443, .aload_n 0, 1), (2444, .iload_n 3, 1), (2445, .iconst 1, 1), (2446, .iadd, 1), (2447, .iaload, 1), (2448, .aload_n 0, 1), (2449, .iload_n 3, 1), (2450, .iconst 2, 1), (2451, .iadd, 1), (2452, .iaload, 1), (2453, .aload_n 0, 1), (2454, .iload_n 3, 1), (2455, .iconst 3, 1), (2456, .iadd, 1), (2457, .iaload, 1), (2458, .aload_n 0, 1), (2459, .iload_n 3, 1), (2460, .iconst 4, 1), (2461, .iadd, 1), (2462, .iaload, 1), (2463, .invokevirtual 232, 3), (2466, .aload_n 2, 1), (2467, .aload_n 0, 1), (2468, .iload_n 3, 1), (2469, .iconst 1, 1), (2470, .iadd, 1), (2471, .iaload, 1), (2472, .aload_n 0, 1), (2473, .iload_n 3, 1), (2474, .iconst 2, 1), (2475, .iadd, 1), (2476, .iaload, 1), (2477, .aload_n 0, 1), (2478, .iload_n 3, 1), (2479, .iconst 3, 1), (2480, .iadd, 1), (2481, .iaload, 1), (2482, .aload_n 0, 1), (2483, .iload_n 3, 1), (2484, .iconst 4, 1), (2485, .iadd, 1), (2486, .iaload, 1), (2487, .invokevirtual 235, 3), (2490, .if_icmp .eq 316, 3), (2493, .iconst 0, 1), (2494, .ireturn, 1)]
set_option maxRecDepth 1000000 in
theorem eL_54 : ∀ q ∈ kL_54, decode cL_law q.1 = .ok q.2 := by decide +kernel
set_option maxRecDepth 1000000 in
theorem oL_54 : ck_ knL kL_54 = true := by decide +kernel
def kL_55 : Ci_t := [(2495, .aload_n 1, 1), (2496, .aload_n 0, 1), (2497, .iload_n 3, 1), (2498, .iconst 1, 1), (2499, .iadd, 1), (2500, .iaload, 1), (2501, .aload_n 0, 1), (2502, .iload_n 3, 1), (2503, .iconst 2, 1), (2504, .iadd, 1), (2505, .iaload, 1), (2506, .aload_n 0, 1), (2507, .iload_n 3, 1), (2508, .iconst 3, 1), (2509, .iadd, 1), (2510, .iaload, 1), (2511, .aload_n 0, 1), (2512, .iload_n 3, 1), (2513, .iconst 4, 1), (2514, .iadd, 1), (2515, .iaload, 1), (2516, .aload_n 0, 1), (2517, .iload_n 3, 1), (2518, .iconst 5, 1), (2519, .iadd, 1), (2520, .iaload, 1), (2521, .invokevirtual 236, 3), (2524, .aload_n 2, 1), (2525, .aload_n 0, 1), (2526, .iload_n 3, 1), (2527, .iconst 1, 1), (2528, .iadd, 1), (2529, .iaload, 1), (2530, .aload_n 0, 1), (2531, .iload_n 3, 1), (2532, .iconst 2, 1), (2533, .iadd, 1), (2534, .iaload, 1), (2535, .aload_n 0, 1), (2536, .iload_n 3, 1), (2537, .iconst 3, 1), (2538, .iadd, 1), (2539, .iaload, 1), (2540, .aload_n 0, 1), (2541, .iload_n 3, 1), (2542, .iconst 4, 1), (2543, .iadd, 1), (2544, .iaload, 1), (2545, .aload_n 0, 1), (2546, .iload_n 3, 1), (2547, .iconst 5, 1), (2548, .iadd, 1), (2549, .iaload, 1), (2550, .invokevirtual 239, 3), (2553, .if_icmp .eq 253, 3), (2556, .iconst 0, 1), (2557, .ireturn, 1)]
set_option maxRecDepth 1000000 in
theorem eL_55 : ∀ q ∈ kL_55, decode cL_law q.1 = .ok q.2 := by decide +kernel
set_option maxRecDepth 1000000 in
theorem oL_55 : ck_ knL kL_55 = true := by decide +kernel
def kL_56 : Ci_t := [(2558, .aload_n 1, 1), (2559, .aload_n 0, 1), (2560, .iload_n 3, 1), (2561, .iconst 1, 1), (2562, .iadd, 1), (2563, .iaload, 1), (2564, .invokevirtual 240, 3), (2567, .aload_n 2, 1), (2568, .aload_n 0, 1), (2569, .iload_n 3, 1), (2570, .iconst 1, 1), (2571, .iadd, 1), (2572, .iaload, 1), (2573, .invokevirtual 243, 3), (2576, .if_icmp .eq 230, 3), (2579, .iconst 0, 1), (2580, .ireturn, 1)]
set_option maxRecDepth 1000000 in
theorem eL_56 : ∀ q ∈ kL_56, decode cL_law q.1 = .ok q.2 := by decide +kernel
set_option maxRecDepth 1000000 in
theorem oL_56 : ck_ knL kL_56 = true := by decide +kernel
def kL_57 : Ci_t := [(2581, .aload_n 1, 1), (2582, .aload_n 0, 1), (2583, .iload_n 3, 1), (2584, .iconst 1, 1), (2585, .iadd, 1), (2586, .iaload, 1), (2587, .invokevirtual 244, 3), (2590, .aload_n 2, 1), (2591, .aload_n 0, 1), (2592, .iload_n 3, 1), (2593, .iconst 1, 1), (2594, .iadd, 1), (2595, .iaload, 1), (2596, .invokevirtual 247, 3), (2599, .if_icmp .eq 207, 3), (2602, .iconst 0, 1), (2603, .ireturn, 1)]
set_option maxRecDepth 1000000 in
theorem eL_57 : ∀ q ∈ kL_57, decode cL_law q.1 = .ok q.2 := by decide +kernel
set_option maxRecDepth 1000000 in
theorem oL_57 : ck_ knL kL_57 = true := by decide +kernel
def kL_58 : Ci_t := [(2604, .aload_n 1, 1), (2605, .aload_n 0, 1), (2606, .iload_n 3, 1), (2607, .iconst 1, 1), (2608, .iadd, 1), (2609, .iaload, 1), (2610, .invokevirtual 248, 3), (2613, .aload_n 2, 1), (2614, .aload_n 0, 1), (2615, .iload_n 3, 1), (2616, .iconst 1, 1), (2617, .iadd, 1), (2618, .iaload, 1), (2619, .invokevirtual 251, 3), (2622, .if_icmp .eq 184, 3), (2625, .iconst 0, 1), (2626, .ireturn, 1)]
set_option maxRecDepth 1000000 in
theorem eL_58 : ∀ q ∈ kL_58, decode cL_law q.1 = .ok q.2 := by decide +kernel
set_option maxRecDepth 1000000 in
theorem oL_58 : ck_ knL kL_58 = true := by decide +kernel
def kL_59 : Ci_t := [(2627, .aload_n 1, 1), (2628, .aload_n 0, 1), (2629, .iload_n 3, 1), (2630, .iconst 1, 1), (2631, .iadd, 1), (2632, .iaload, 1), (2633, .aload_n 0, 1), (2634, .iload_n 3, 1), (2635, .iconst 2, 1), (2636, .iadd, 1), (2637, .iaload, 1), (2638, .aload_n 0, 1), (2639, .iload_n 3, 1), (2640, .iconst 3, 1), (2641, .iadd, 1), (2642, .iaload, 1), (2643, .invokevirtual 252, 3), (2646, .aload_n 2, 1), (2647, .aload_n 0, 1), (2648, .iload_n 3, 1), (2649, .iconst 1, 1), (2650, .iadd, 1), (2651, .iaload, 1), (2652, .aload_n 0, 1), (2653, .iload_n 3, 1), (2654, .iconst 2, 1), (2655, .iadd, 1), (2656, .iaload, 1), (2657, .aload_n 0, 1), (2658, .iload_n 3, 1), (2659, .iconst 3, 1), (2660, .iadd, 1), (2661, .iaload, 1), (2662, .invokevirtual 255, 3), (2665, .if_icmp .eq 141, 3), (2668, .iconst 0, 1), (2669, .ireturn, 1)]
set_option maxRecDepth 1000000 in
theorem eL_59 : ∀ q ∈ kL_59, decode cL_law q.1 = .ok q.2 := by decide +kernel
set_option maxRecDepth 1000000 in
theorem oL_59 : ck_ knL kL_59 = true := by decide +kernel
def kL_60 : Ci_t := [(2670, .aload_n 1, 1), (2671, .aload_n 0, 1), (2672, .iload_n 3, 1), (2673, .iconst 1, 1), (2674, .iadd, 1), (2675, .iaload, 1), (2676, .aload_n 0, 1), (2677, .iload_n 3, 1), (2678, .iconst 2, 1), (2679, .iadd, 1), (2680, .iaload, 1), (2681, .aload_n 0, 1), (2682, .iload_n 3, 1), (2683, .iconst 3, 1), (2684, .iadd, 1), (2685, .iaload, 1), (2686, .i2l, 1), (2687, .bipush 32, 2), (2689, .lshl, 1), (2690, .aload_n 0, 1), (2691, .iload_n 3, 1), (2692, .iconst 4, 1), (2693, .iadd, 1), (2694, .iaload, 1), (2695, .i2l, 1), (2696, .ldc2_w 256, 3), (2699, .land, 1), (2700, .lor, 1), (2701, .invokevirtual 258, 3), (2704, .aload_n 2, 1), (2705, .aload_n 0, 1), (2706, .iload_n 3, 1), (2707, .iconst 1, 1), (2708, .iadd, 1), (2709, .iaload, 1), (2710, .aload_n 0, 1), (2711, .iload_n 3, 1), (2712, .iconst 2, 1), (2713, .iadd, 1), (2714, .iaload, 1), (2715, .aload_n 0, 1), (2716, .iload_n 3, 1), (2717, .iconst 3, 1), (2718, .iadd, 1), (2719, .iaload, 1), (2720, .i2l, 1), (2721, .bipush 32, 2), (2723, .lshl, 1), (2724, .aload_n 0, 1), (2725, .iload_n 3, 1), (2726, .iconst 4, 1), (2727, .iadd, 1), (2728, .iaload, 1), (2729, .i2l, 1), (2730, .ldc2_w 256, 3), (2733, .land, 1), (2734, .lor, 1), (2735, .invokevirtual 262, 3), (2738, .if_icmp .eq 68, 3), (2741, .iconst 0, 1), (2742, .ireturn, 1)]
set_option maxRecDepth 1000000 in
theorem eL_60 : ∀ q ∈ kL_60, decode cL_law q.1 = .ok q.2 := by decide +kernel
set_option maxRecDepth 1000000 in
theorem oL_60 : ck_ knL kL_60 = true := by decide +kernel
def kL_61 : Ci_t := [(2743, .aload_n 1, 1), (2744, .aload_n 0, 1), (2745, .iload_n 3, 1), (2746, .iconst 1, 1), (2747, .iadd, 1), (2748, .iaload, 1), (2749, .aload_n 0, 1), (2750, .iload_n 3, 1), (2751, .iconst 2, 1), (2752, .iadd, 1), (2753, .iaload, 1), (2754, .aload_n 0, 1), (2755, .iload_n 3, 1), (2756, .iconst 3, 1), (2757, .iadd, 1), (2758, .iaload, 1), (2759, .aload_n 0, 1), (2760, .iload_n 3, 1), (2761, .iconst 4, 1), (2762, .iadd, 1), (2763, .iaload, 1), (2764, .aload_n 0, 1), (2765, .iload_n 3, 1), (2766, .iconst 5, 1), (2767, .iadd, 1), (2768, .iaload, 1), (2769, .invokevirtual 263, 3), (2772, .aload_n 2, 1), (2773, .aload_n 0, 1), (2774, .iload_n 3, 1), (2775, .iconst 1, 1), (2776, .iadd, 1), (2777, .iaload, 1), (2778, .aload_n 0, 1), (2779, .iload_n 3, 1), (2780, .iconst 2, 1), (2781, .iadd, 1), (2782, .iaload, 1), (2783, .aload_n 0, 1), (2784, .iload_n 3, 1), (2785, .iconst 3, 1), (2786, .iadd, 1), (2787, .iaload, 1), (2788, .aload_n 0, 1), (2789, .iload_n 3, 1), (2790, .iconst 4, 1), (2791, .iadd, 1), (2792, .iaload, 1), (2793, .aload_n 0, 1), (2794, .iload_n 3, 1), (2795, .iconst 5, 1), (2796, .iadd, 1), (2797, .iaload, 1), (2798, .invokevirtual 266, 3), (2801, .if_icmp .eq 5, 3), (2804, .iconst 0, 1), (2805, .ireturn, 1)]
set_option maxRecDepth 1000000 in
theorem eL_61 : ∀ q ∈ kL_61, decode cL_law q.1 = .ok q.2 := by decide +kernel
set_option maxRecDepth 1000000 in
theorem oL_61 : ck_ knL kL_61 = true := by decide +kernel
def kL_62 : Ci_t := [(2806, .iinc 3 6, 3), (2809, .goto (-2791), 3), (2812, .iconst 1, 1), (2813, .ireturn, 1)]
set_option maxRecDepth 1000000 in
theorem eL_62 : ∀ q ∈ kL_62, decode cL_law q.1 = .ok q.2 := by decide +kernel
set_option maxRecDepth 1000000 in
theorem oL_62 : ck_ knL kL_62 = true := by decide +kernel
