-- ===== 08.ok5: 4 texts =====
section
-- ===== methods 280 to 332 are in order (by program) =====
theorem zo280 : zMok zM280 := ⟨zf_ok 0 (by decide +kernel), zW_of (zsub_9 (List.mem_of_getElem? (show tables_1_9[204]? = some (.code zM280.2.1 zM280.2.2.1 zM280.2.2.2.1 zM280.2.2.2.2.1) from rfl))) rfl, zTab_mem (p := 131) (by decide +kernel), (show Cond.instanceMethod zM280.2.1 ∈ zW from zTab_mem (p := 2241) (by decide +kernel)), fun _ => zTab_mem (p := 2242) (by decide +kernel), by decide +kernel⟩
theorem zo281 : zMok zM281 := ⟨zf_ok 0 (by decide +kernel), zW_of (zsub_9 (List.mem_of_getElem? (show tables_1_9[210]? = some (.code zM281.2.1 zM281.2.2.1 zM281.2.2.2.1 zM281.2.2.2.2.1) from rfl))) rfl, zTab_mem (p := 131) (by decide +kernel), (show Cond.instanceMethod zM281.2.1 ∈ zW from zTab_mem (p := 2247) (by decide +kernel)), fun _ => zTab_mem (p := 2248) (by decide +kernel), by decide +kernel⟩
theorem zo282 : zMok zM282 := ⟨zf_ok 0 (by decide +kernel), zW_of (zsub_9 (List.mem_of_getElem? (show tables_1_9[226]? = some (.code zM282.2.1 zM282.2.2.1 zM282.2.2.2.1 zM282.2.2.2.2.1) from rfl))) rfl, zTab_mem (p := 131) (by decide +kernel), (show Cond.instanceMethod zM282.2.1 ∈ zW from zTab_mem (p := 2264) (by decide +kernel)), fun _ => zTab_mem (p := 99) (by decide +kernel), by decide +kernel⟩
theorem zo283 : zMok zM283 := ⟨zf_ok 0 (by decide +kernel), zW_of (zsub_9 (List.mem_of_getElem? (show tables_1_9[222]? = some (.code zM283.2.1 zM283.2.2.1 zM283.2.2.2.1 zM283.2.2.2.2.1) from rfl))) rfl, zTab_mem (p := 131) (by decide +kernel), (show Cond.instanceMethod zM283.2.1 ∈ zW from zTab_mem (p := 2260) (by decide +kernel)), fun _ => zTab_mem (p := 98) (by decide +kernel), by decide +kernel⟩
theorem zo284 : zMok zM284 := ⟨zf_ok 0 (by decide +kernel), zW_of (zsub_9 (List.mem_of_getElem? (show tables_1_9[218]? = some (.code zM284.2.1 zM284.2.2.1 zM284.2.2.2.1 zM284.2.2.2.2.1) from rfl))) rfl, zTab_mem (p := 131) (by decide +kernel), (show Cond.instanceMethod zM284.2.1 ∈ zW from zTab_mem (p := 2256) (by decide +kernel)), fun _ => zTab_mem (p := 97) (by decide +kernel), by decide +kernel⟩
theorem zo285 : zMok zM285 := ⟨zf_ok 0 (by decide +kernel), zW_of (zsub_9 (List.mem_of_getElem? (show tables_1_9[237]? = some (.code zM285.2.1 zM285.2.2.1 zM285.2.2.2.1 zM285.2.2.2.2.1) from rfl))) rfl, zTab_mem (p := 131) (by decide +kernel), (show Cond.instanceMethod zM285.2.1 ∈ zW from zTab_mem (p := 2275) (by decide +kernel)), fun _ => zTab_mem (p := 101) (by decide +kernel), by decide +kernel⟩
theorem zo286 : zMok zM286 := ⟨zf_ok 0 (by decide +kernel), zW_of (zsub_9 (List.mem_of_getElem? (show tables_1_9[233]? = some (.code zM286.2.1 zM286.2.2.1 zM286.2.2.2.1 zM286.2.2.2.2.1) from rfl))) rfl, zTab_mem (p := 131) (by decide +kernel), (show Cond.instanceMethod zM286.2.1 ∈ zW from zTab_mem (p := 2271) (by decide +kernel)), fun _ => zTab_mem (p := 100) (by decide +kernel), by decide +kernel⟩
theorem zo287 : zMok zM287 := ⟨zf_ok 0 (by decide +kernel), zW_of (zsub_9 (List.mem_of_getElem? (show tables_1_9[229]? = some (.code zM287.2.1 zM287.2.2.1 zM287.2.2.2.1 zM287.2.2.2.2.1) from rfl))) rfl, zTab_mem (p := 131) (by decide +kernel), (show Cond.static zM287.2.1 ∈ zW from zTab_mem (p := 2267) (by decide +kernel)), fun h => absurd h (by decide), by decide +kernel⟩
theorem zo288 : zMok zM288 := ⟨zf_ok 0 (by decide +kernel), zW_of (zsub_9 (List.mem_of_getElem? (show tables_1_9[214]? = some (.code zM288.2.1 zM288.2.2.1 zM288.2.2.2.1 zM288.2.2.2.2.1) from rfl))) rfl, zTab_mem (p := 131) (by decide +kernel), (show Cond.instanceMethod zM288.2.1 ∈ zW from zTab_mem (p := 2251) (by decide +kernel)), fun _ => zTab_mem (p := 2252) (by decide +kernel), by decide +kernel⟩
theorem zo289 : zMok zM289 := ⟨zf_ok 0 (by decide +kernel), zW_of (zsub_10 (List.mem_of_getElem? (show tables_1_10[1]? = some (.code zM289.2.1 zM289.2.2.1 zM289.2.2.2.1 zM289.2.2.2.2.1) from rfl))) rfl, zTab_mem (p := 131) (by decide +kernel), (show Cond.instanceMethod zM289.2.1 ∈ zW from zTab_mem (p := 2278) (by decide +kernel)), fun _ => zTab_mem (p := 2279) (by decide +kernel), by decide +kernel⟩
theorem zo290 : zMok zM290 := ⟨zf_ok 0 (by decide +kernel), zW_of (zsub_10 (List.mem_of_getElem? (show tables_1_10[5]? = some (.code zM290.2.1 zM290.2.2.1 zM290.2.2.2.1 zM290.2.2.2.2.1) from rfl))) rfl, zTab_mem (p := 131) (by decide +kernel), (show Cond.instanceMethod zM290.2.1 ∈ zW from zTab_mem (p := 2282) (by decide +kernel)), fun _ => zTab_mem (p := 2283) (by decide +kernel), by decide +kernel⟩
theorem zo291 : zMok zM291 := ⟨zf_ok 0 (by decide +kernel), zW_of (zsub_10 (List.mem_of_getElem? (show tables_1_10[13]? = some (.code zM291.2.1 zM291.2.2.1 zM291.2.2.2.1 zM291.2.2.2.2.1) from rfl))) rfl, zTab_mem (p := 131) (by decide +kernel), (show Cond.instanceMethod zM291.2.1 ∈ zW from zTab_mem (p := 2291) (by decide +kernel)), fun _ => zTab_mem (p := 102) (by decide +kernel), by decide +kernel⟩
theorem zo292 : zMok zM292 := ⟨zf_ok 0 (by decide +kernel), zW_of (zsub_10 (List.mem_of_getElem? (show tables_1_10[9]? = some (.code zM292.2.1 zM292.2.2.1 zM292.2.2.2.1 zM292.2.2.2.2.1) from rfl))) rfl, zTab_mem (p := 131) (by decide +kernel), (show Cond.instanceMethod zM292.2.1 ∈ zW from zTab_mem (p := 2286) (by decide +kernel)), fun _ => zTab_mem (p := 2287) (by decide +kernel), by decide +kernel⟩
theorem zo293 : zMok zM293 := ⟨zf_ok 0 (by decide +kernel), zW_of (zsub_10 (List.mem_of_getElem? (show tables_1_10[17]? = some (.code zM293.2.1 zM293.2.2.1 zM293.2.2.2.1 zM293.2.2.2.2.1) from rfl))) rfl, zTab_mem (p := 131) (by decide +kernel), (show Cond.instanceMethod zM293.2.1 ∈ zW from zTab_mem (p := 2295) (by decide +kernel)), fun _ => zTab_mem (p := 103) (by decide +kernel), by decide +kernel⟩
theorem zo294 : zMok zM294 := ⟨zf_ok 0 (by decide +kernel), zW_of (zsub_10 (List.mem_of_getElem? (show tables_1_10[22]? = some (.code zM294.2.1 zM294.2.2.1 zM294.2.2.2.1 zM294.2.2.2.2.1) from rfl))) rfl, zTab_mem (p := 131) (by decide +kernel), (show Cond.instanceMethod zM294.2.1 ∈ zW from zTab_mem (p := 2299) (by decide +kernel)), fun _ => zTab_mem (p := 2300) (by decide +kernel), by decide +kernel⟩
theorem zo295 : zMok zM295 := ⟨zf_ok 0 (by decide +kernel), zW_of (zsub_10 (List.mem_of_getElem? (show tables_1_10[30]? = some (.code zM295.2.1 zM295.2.2.1 zM295.2.2.2.1 zM295.2.2.2.2.1) from rfl))) rfl, zTab_mem (p := 131) (by decide +kernel), (show Cond.instanceMethod zM295.2.1 ∈ zW from zTab_mem (p := 2308) (by decide +kernel)), fun _ => zTab_mem (p := 104) (by decide +kernel), by decide +kernel⟩
theorem zo296 : zMok zM296 := ⟨zf_ok 0 (by decide +kernel), zW_of (zsub_10 (List.mem_of_getElem? (show tables_1_10[33]? = some (.code zM296.2.1 zM296.2.2.1 zM296.2.2.2.1 zM296.2.2.2.2.1) from rfl))) rfl, zTab_mem (p := 131) (by decide +kernel), (show Cond.static zM296.2.1 ∈ zW from zTab_mem (p := 2311) (by decide +kernel)), fun h => absurd h (by decide), by decide +kernel⟩
theorem zo297 : zMok zM297 := ⟨zf_ok 0 (by decide +kernel), zW_of (zsub_10 (List.mem_of_getElem? (show tables_1_10[36]? = some (.code zM297.2.1 zM297.2.2.1 zM297.2.2.2.1 zM297.2.2.2.2.1) from rfl))) rfl, zTab_mem (p := 131) (by decide +kernel), (show Cond.static zM297.2.1 ∈ zW from zTab_mem (p := 2314) (by decide +kernel)), fun h => absurd h (by decide), by decide +kernel⟩
theorem zo298 : zMok zM298 := ⟨zf_ok 0 (by decide +kernel), zW_of (zsub_10 (List.mem_of_getElem? (show tables_1_10[26]? = some (.code zM298.2.1 zM298.2.2.1 zM298.2.2.2.1 zM298.2.2.2.2.1) from rfl))) rfl, zTab_mem (p := 131) (by decide +kernel), (show Cond.instanceMethod zM298.2.1 ∈ zW from zTab_mem (p := 2303) (by decide +kernel)), fun _ => zTab_mem (p := 2304) (by decide +kernel), by decide +kernel⟩
theorem zo299 : zMok zM299 := ⟨zf_ok 0 (by decide +kernel), zW_of (zsub_10 (List.mem_of_getElem? (show tables_1_10[40]? = some (.code zM299.2.1 zM299.2.2.1 zM299.2.2.2.1 zM299.2.2.2.2.1) from rfl))) rfl, zTab_mem (p := 131) (by decide +kernel), (show Cond.instanceMethod zM299.2.1 ∈ zW from zTab_mem (p := 2317) (by decide +kernel)), fun _ => zTab_mem (p := 2318) (by decide +kernel), by decide +kernel⟩
theorem zo300 : zMok zM300 := ⟨zf_ok 0 (by decide +kernel), zW_of (zsub_10 (List.mem_of_getElem? (show tables_1_10[44]? = some (.code zM300.2.1 zM300.2.2.1 zM300.2.2.2.1 zM300.2.2.2.2.1) from rfl))) rfl, zTab_mem (p := 131) (by decide +kernel), (show Cond.instanceMethod zM300.2.1 ∈ zW from zTab_mem (p := 2321) (by decide +kernel)), fun _ => zTab_mem (p := 2322) (by decide +kernel), by decide +kernel⟩
theorem zo301 : zMok zM301 := ⟨zf_ok 0 (by decide +kernel), zW_of (zsub_10 (List.mem_of_getElem? (show tables_1_10[52]? = some (.code zM301.2.1 zM301.2.2.1 zM301.2.2.2.1 zM301.2.2.2.2.1) from rfl))) rfl, zTab_mem (p := 131) (by decide +kernel), (show Cond.instanceMethod zM301.2.1 ∈ zW from zTab_mem (p := 2330) (by decide +kernel)), fun _ => zTab_mem (p := 105) (by decide +kernel), by decide +kernel⟩
theorem zo302 : zMok zM302 := ⟨zf_ok 0 (by decide +kernel), zW_of (zsub_10 (List.mem_of_getElem? (show tables_1_10[48]? = some (.code zM302.2.1 zM302.2.2.1 zM302.2.2.2.1 zM302.2.2.2.2.1) from rfl))) rfl, zTab_mem (p := 131) (by decide +kernel), (show Cond.instanceMethod zM302.2.1 ∈ zW from zTab_mem (p := 2325) (by decide +kernel)), fun _ => zTab_mem (p := 2326) (by decide +kernel), by decide +kernel⟩
theorem zo303 : zMok zM303 := ⟨zf_ok 0 (by decide +kernel), zW_of (zsub_10 (List.mem_of_getElem? (show tables_1_10[56]? = some (.code zM303.2.1 zM303.2.2.1 zM303.2.2.2.1 zM303.2.2.2.2.1) from rfl))) rfl, zTab_mem (p := 131) (by decide +kernel), (show Cond.instanceMethod zM303.2.1 ∈ zW from zTab_mem (p := 2333) (by decide +kernel)), fun _ => zTab_mem (p := 2334) (by decide +kernel), by decide +kernel⟩
theorem zo304 : zMok zM304 := ⟨zf_ok 0 (by decide +kernel), zW_of (zsub_10 (List.mem_of_getElem? (show tables_1_10[60]? = some (.code zM304.2.1 zM304.2.2.1 zM304.2.2.2.1 zM304.2.2.2.2.1) from rfl))) rfl, zTab_mem (p := 131) (by decide +kernel), (show Cond.instanceMethod zM304.2.1 ∈ zW from zTab_mem (p := 2337) (by decide +kernel)), fun _ => zTab_mem (p := 2338) (by decide +kernel), by decide +kernel⟩
theorem zo305 : zMok zM305 := ⟨zf_ok 0 (by decide +kernel), zW_of (zsub_10 (List.mem_of_getElem? (show tables_1_10[72]? = some (.code zM305.2.1 zM305.2.2.1 zM305.2.2.2.1 zM305.2.2.2.2.1) from rfl))) rfl, zTab_mem (p := 131) (by decide +kernel), (show Cond.instanceMethod zM305.2.1 ∈ zW from zTab_mem (p := 2350) (by decide +kernel)), fun _ => zTab_mem (p := 107) (by decide +kernel), by decide +kernel⟩
theorem zo306 : zMok zM306 := ⟨zf_ok 0 (by decide +kernel), zW_of (zsub_10 (List.mem_of_getElem? (show tables_1_10[80]? = some (.code zM306.2.1 zM306.2.2.1 zM306.2.2.2.1 zM306.2.2.2.2.1) from rfl))) rfl, zTab_mem (p := 131) (by decide +kernel), (show Cond.instanceMethod zM306.2.1 ∈ zW from zTab_mem (p := 2358) (by decide +kernel)), fun _ => zTab_mem (p := 109) (by decide +kernel), by decide +kernel⟩
theorem zo307 : zMok zM307 := ⟨zf_ok 0 (by decide +kernel), zW_of (zsub_10 (List.mem_of_getElem? (show tables_1_10[76]? = some (.code zM307.2.1 zM307.2.2.1 zM307.2.2.2.1 zM307.2.2.2.2.1) from rfl))) rfl, zTab_mem (p := 131) (by decide +kernel), (show Cond.instanceMethod zM307.2.1 ∈ zW from zTab_mem (p := 2354) (by decide +kernel)), fun _ => zTab_mem (p := 108) (by decide +kernel), by decide +kernel⟩
theorem zo308 : zMok zM308 := ⟨zf_ok 0 (by decide +kernel), zW_of (zsub_10 (List.mem_of_getElem? (show tables_1_10[68]? = some (.code zM308.2.1 zM308.2.2.1 zM308.2.2.2.1 zM308.2.2.2.2.1) from rfl))) rfl, zTab_mem (p := 131) (by decide +kernel), (show Cond.instanceMethod zM308.2.1 ∈ zW from zTab_mem (p := 2346) (by decide +kernel)), fun _ => zTab_mem (p := 106) (by decide +kernel), by decide +kernel⟩
theorem zo309 : zMok zM309 := ⟨zf_ok 0 (by decide +kernel), zW_of (zsub_10 (List.mem_of_getElem? (show tables_1_10[92]? = some (.code zM309.2.1 zM309.2.2.1 zM309.2.2.2.1 zM309.2.2.2.2.1) from rfl))) rfl, zTab_mem (p := 131) (by decide +kernel), (show Cond.instanceMethod zM309.2.1 ∈ zW from zTab_mem (p := 2370) (by decide +kernel)), fun _ => zTab_mem (p := 112) (by decide +kernel), by decide +kernel⟩
theorem zo310 : zMok zM310 := ⟨zf_ok 0 (by decide +kernel), zW_of (zsub_10 (List.mem_of_getElem? (show tables_1_10[88]? = some (.code zM310.2.1 zM310.2.2.1 zM310.2.2.2.1 zM310.2.2.2.2.1) from rfl))) rfl, zTab_mem (p := 131) (by decide +kernel), (show Cond.instanceMethod zM310.2.1 ∈ zW from zTab_mem (p := 2366) (by decide +kernel)), fun _ => zTab_mem (p := 111) (by decide +kernel), by decide +kernel⟩
theorem zo311 : zMok zM311 := ⟨zf_ok 0 (by decide +kernel), zW_of (zsub_10 (List.mem_of_getElem? (show tables_1_10[84]? = some (.code zM311.2.1 zM311.2.2.1 zM311.2.2.2.1 zM311.2.2.2.2.1) from rfl))) rfl, zTab_mem (p := 131) (by decide +kernel), (show Cond.instanceMethod zM311.2.1 ∈ zW from zTab_mem (p := 2362) (by decide +kernel)), fun _ => zTab_mem (p := 110) (by decide +kernel), by decide +kernel⟩
theorem zo312 : zMok zM312 := ⟨zf_ok 0 (by decide +kernel), zW_of (zsub_10 (List.mem_of_getElem? (show tables_1_10[100]? = some (.code zM312.2.1 zM312.2.2.1 zM312.2.2.2.1 zM312.2.2.2.2.1) from rfl))) rfl, zTab_mem (p := 131) (by decide +kernel), (show Cond.instanceMethod zM312.2.1 ∈ zW from zTab_mem (p := 2378) (by decide +kernel)), fun _ => zTab_mem (p := 114) (by decide +kernel), by decide +kernel⟩
theorem zo313 : zMok zM313 := ⟨zf_ok 0 (by decide +kernel), zW_of (zsub_10 (List.mem_of_getElem? (show tables_1_10[96]? = some (.code zM313.2.1 zM313.2.2.1 zM313.2.2.2.1 zM313.2.2.2.2.1) from rfl))) rfl, zTab_mem (p := 131) (by decide +kernel), (show Cond.instanceMethod zM313.2.1 ∈ zW from zTab_mem (p := 2374) (by decide +kernel)), fun _ => zTab_mem (p := 113) (by decide +kernel), by decide +kernel⟩
theorem zo314 : zMok zM314 := ⟨zf_ok 0 (by decide +kernel), zW_of (zsub_10 (List.mem_of_getElem? (show tables_1_10[108]? = some (.code zM314.2.1 zM314.2.2.1 zM314.2.2.2.1 zM314.2.2.2.2.1) from rfl))) rfl, zTab_mem (p := 131) (by decide +kernel), (show Cond.instanceMethod zM314.2.1 ∈ zW from zTab_mem (p := 2386) (by decide +kernel)), fun _ => zTab_mem (p := 116) (by decide +kernel), by decide +kernel⟩
theorem zo315 : zMok zM315 := ⟨zf_ok 0 (by decide +kernel), zW_of (zsub_10 (List.mem_of_getElem? (show tables_1_10[104]? = some (.code zM315.2.1 zM315.2.2.1 zM315.2.2.2.1 zM315.2.2.2.2.1) from rfl))) rfl, zTab_mem (p := 131) (by decide +kernel), (show Cond.instanceMethod zM315.2.1 ∈ zW from zTab_mem (p := 2382) (by decide +kernel)), fun _ => zTab_mem (p := 115) (by decide +kernel), by decide +kernel⟩
theorem zo316 : zMok zM316 := ⟨zf_ok 0 (by decide +kernel), zW_of (zsub_10 (List.mem_of_getElem? (show tables_1_10[64]? = some (.code zM316.2.1 zM316.2.2.1 zM316.2.2.2.1 zM316.2.2.2.2.1) from rfl))) rfl, zTab_mem (p := 131) (by decide +kernel), (show Cond.instanceMethod zM316.2.1 ∈ zW from zTab_mem (p := 2341) (by decide +kernel)), fun _ => zTab_mem (p := 2342) (by decide +kernel), by decide +kernel⟩
theorem zo317 : zMok zM317 := ⟨zf_ok 0 (by decide +kernel), zW_of (zsub_10 (List.mem_of_getElem? (show tables_1_10[112]? = some (.code zM317.2.1 zM317.2.2.1 zM317.2.2.2.1 zM317.2.2.2.2.1) from rfl))) rfl, zTab_mem (p := 131) (by decide +kernel), (show Cond.instanceMethod zM317.2.1 ∈ zW from zTab_mem (p := 2389) (by decide +kernel)), fun _ => zTab_mem (p := 2390) (by decide +kernel), by decide +kernel⟩
theorem zo318 : zMok zM318 := ⟨zf_ok 0 (by decide +kernel), zW_of (zsub_9 (List.mem_of_getElem? (show tables_1_9[69]? = some (.code zM318.2.1 zM318.2.2.1 zM318.2.2.2.1 zM318.2.2.2.2.1) from rfl))) rfl, zTab_mem (p := 131) (by decide +kernel), (show Cond.static zM318.2.1 ∈ zW from zTab_mem (p := 2107) (by decide +kernel)), fun h => absurd h (by decide), by decide +kernel⟩
theorem zo319 : zMok zM319 := ⟨zf_ok 0 (by decide +kernel), zW_of (zsub_10 (List.mem_of_getElem? (show tables_1_10[116]? = some (.code zM319.2.1 zM319.2.2.1 zM319.2.2.2.1 zM319.2.2.2.2.1) from rfl))) rfl, zTab_mem (p := 131) (by decide +kernel), (show Cond.instanceMethod zM319.2.1 ∈ zW from zTab_mem (p := 2393) (by decide +kernel)), fun _ => zTab_mem (p := 2394) (by decide +kernel), by decide +kernel⟩
theorem zo320 : zMok zM320 := ⟨zf_ok 0 (by decide +kernel), zW_of (zsub_10 (List.mem_of_getElem? (show tables_1_10[120]? = some (.code zM320.2.1 zM320.2.2.1 zM320.2.2.2.1 zM320.2.2.2.2.1) from rfl))) rfl, zTab_mem (p := 131) (by decide +kernel), (show Cond.instanceMethod zM320.2.1 ∈ zW from zTab_mem (p := 2397) (by decide +kernel)), fun _ => zTab_mem (p := 2398) (by decide +kernel), by decide +kernel⟩
theorem zo321 : zMok zM321 := ⟨zf_ok 0 (by decide +kernel), zW_of (zsub_10 (List.mem_of_getElem? (show tables_1_10[128]? = some (.code zM321.2.1 zM321.2.2.1 zM321.2.2.2.1 zM321.2.2.2.2.1) from rfl))) rfl, zTab_mem (p := 131) (by decide +kernel), (show Cond.instanceMethod zM321.2.1 ∈ zW from zTab_mem (p := 2406) (by decide +kernel)), fun _ => zTab_mem (p := 117) (by decide +kernel), by decide +kernel⟩
theorem zo322 : zMok zM322 := ⟨zf_ok 0 (by decide +kernel), zW_of (zsub_10 (List.mem_of_getElem? (show tables_1_10[124]? = some (.code zM322.2.1 zM322.2.2.1 zM322.2.2.2.1 zM322.2.2.2.2.1) from rfl))) rfl, zTab_mem (p := 131) (by decide +kernel), (show Cond.instanceMethod zM322.2.1 ∈ zW from zTab_mem (p := 2401) (by decide +kernel)), fun _ => zTab_mem (p := 2402) (by decide +kernel), by decide +kernel⟩
theorem zo323 : zMok zM323 := ⟨zf_ok 0 (by decide +kernel), zW_of (zsub_10 (List.mem_of_getElem? (show tables_1_10[132]? = some (.code zM323.2.1 zM323.2.2.1 zM323.2.2.2.1 zM323.2.2.2.2.1) from rfl))) rfl, zTab_mem (p := 131) (by decide +kernel), (show Cond.instanceMethod zM323.2.1 ∈ zW from zTab_mem (p := 2409) (by decide +kernel)), fun _ => zTab_mem (p := 2410) (by decide +kernel), by decide +kernel⟩
theorem zo324 : zMok zM324 := ⟨zf_ok 0 (by decide +kernel), zW_of (zsub_10 (List.mem_of_getElem? (show tables_1_10[137]? = some (.code zM324.2.1 zM324.2.2.1 zM324.2.2.2.1 zM324.2.2.2.2.1) from rfl))) rfl, zTab_mem (p := 131) (by decide +kernel), (show Cond.instanceMethod zM324.2.1 ∈ zW from zTab_mem (p := 2414) (by decide +kernel)), fun _ => zTab_mem (p := 2415) (by decide +kernel), by decide +kernel⟩
theorem zo325 : zMok zM325 := ⟨zf_ok 0 (by decide +kernel), zW_of (zsub_10 (List.mem_of_getElem? (show tables_1_10[141]? = some (.code zM325.2.1 zM325.2.2.1 zM325.2.2.2.1 zM325.2.2.2.2.1) from rfl))) rfl, zTab_mem (p := 131) (by decide +kernel), (show Cond.instanceMethod zM325.2.1 ∈ zW from zTab_mem (p := 2418) (by decide +kernel)), fun _ => zTab_mem (p := 2419) (by decide +kernel), by decide +kernel⟩
theorem zo326 : zMok zM326 := ⟨zf_ok 0 (by decide +kernel), zW_of (zsub_10 (List.mem_of_getElem? (show tables_1_10[149]? = some (.code zM326.2.1 zM326.2.2.1 zM326.2.2.2.1 zM326.2.2.2.2.1) from rfl))) rfl, zTab_mem (p := 131) (by decide +kernel), (show Cond.instanceMethod zM326.2.1 ∈ zW from zTab_mem (p := 2427) (by decide +kernel)), fun _ => zTab_mem (p := 118) (by decide +kernel), by decide +kernel⟩
theorem zo327 : zMok zM327 := ⟨zf_ok 0 (by decide +kernel), zW_of (zsub_10 (List.mem_of_getElem? (show tables_1_10[145]? = some (.code zM327.2.1 zM327.2.2.1 zM327.2.2.2.1 zM327.2.2.2.2.1) from rfl))) rfl, zTab_mem (p := 131) (by decide +kernel), (show Cond.instanceMethod zM327.2.1 ∈ zW from zTab_mem (p := 2422) (by decide +kernel)), fun _ => zTab_mem (p := 2423) (by decide +kernel), by decide +kernel⟩
theorem zo328 : zMok zM328 := ⟨zf_ok 0 (by decide +kernel), zW_of (zsub_6 (List.mem_of_getElem? (show tables_1_6[44]? = some (.code zM328.2.1 zM328.2.2.1 zM328.2.2.2.1 zM328.2.2.2.2.1) from rfl))) rfl, zTab_mem (p := 135) (by decide +kernel), (show Cond.static zM328.2.1 ∈ zW from zTab_mem (p := 1362) (by decide +kernel)), fun h => absurd h (by decide), by decide +kernel⟩
theorem zo329 : zMok zM329 := ⟨zf_ok 0 (by decide +kernel), zW_of (zsub_4 (List.mem_of_getElem? (show tables_1_4[87]? = some (.code zM329.2.1 zM329.2.2.1 zM329.2.2.2.1 zM329.2.2.2.2.1) from rfl))) rfl, zTab_mem (p := 135) (by decide +kernel), (show Cond.static zM329.2.1 ∈ zW from zTab_mem (p := 925) (by decide +kernel)), fun h => absurd h (by decide), by decide +kernel⟩
theorem zo330 : zMok zM330 := ⟨by decide +kernel, zW_of (zsub_6 (List.mem_of_getElem? (show tables_1_6[235]? = some (.code zM330.2.1 zM330.2.2.1 zM330.2.2.2.1 zM330.2.2.2.2.1) from rfl))) rfl, zTab_mem (p := 134) (by decide +kernel), (show Cond.static zM330.2.1 ∈ zW from zTab_mem (p := 1553) (by decide +kernel)), fun h => absurd h (by decide), by decide +kernel⟩
theorem zo331 : zMok zM331 := ⟨zf_ok 0 (by decide +kernel), zW_of (zsub_6 (List.mem_of_getElem? (show tables_1_6[232]? = some (.code zM331.2.1 zM331.2.2.1 zM331.2.2.2.1 zM331.2.2.2.2.1) from rfl))) rfl, zTab_mem (p := 134) (by decide +kernel), (show Cond.static zM331.2.1 ∈ zW from zTab_mem (p := 1550) (by decide +kernel)), fun h => absurd h (by decide), by decide +kernel⟩
theorem zo332 : zMok zM332 := ⟨zf_ok 0 (by decide +kernel), zW_of (zsub_4 (List.mem_of_getElem? (show tables_1_4[63]? = some (.code zM332.2.1 zM332.2.2.1 zM332.2.2.2.1 zM332.2.2.2.2.1) from rfl))) rfl, zTab_mem (p := 134) (by decide +kernel), (show Cond.static zM332.2.1 ∈ zW from zTab_mem (p := 901) (by decide +kernel)), fun h => absurd h (by decide), by decide +kernel⟩
end
section
-- ===== all methods are in order; the law is =====
theorem zok_0 : ∀ M ∈ zmt_0, zMok M := List.forall_mem_cons.mpr ⟨zo0, List.forall_mem_cons.mpr ⟨zo1, List.forall_mem_cons.mpr ⟨zo2, List.forall_mem_cons.mpr ⟨zo3, List.forall_mem_cons.mpr ⟨zo4, List.forall_mem_cons.mpr ⟨zo5, List.forall_mem_cons.mpr ⟨zo6, List.forall_mem_cons.mpr ⟨zo7, List.forall_mem_cons.mpr ⟨zo8, List.forall_mem_cons.mpr ⟨zo9, List.forall_mem_cons.mpr ⟨zo10, List.forall_mem_cons.mpr ⟨zo11, List.forall_mem_cons.mpr ⟨zo12, List.forall_mem_cons.mpr ⟨zo13, List.forall_mem_cons.mpr ⟨zo14, List.forall_mem_cons.mpr ⟨zo15, List.forall_mem_cons.mpr ⟨zo16, List.forall_mem_cons.mpr ⟨zo17, List.forall_mem_cons.mpr ⟨zo18, List.forall_mem_cons.mpr ⟨zo19, fun _ h => absurd h List.not_mem_nil⟩⟩⟩⟩⟩⟩⟩⟩⟩⟩⟩⟩⟩⟩⟩⟩⟩⟩⟩⟩
theorem zok_1 : ∀ M ∈ zmt_1, zMok M := List.forall_mem_cons.mpr ⟨zo20, List.forall_mem_cons.mpr ⟨zo21, List.forall_mem_cons.mpr ⟨zo22, List.forall_mem_cons.mpr ⟨zo23, List.forall_mem_cons.mpr ⟨zo24, List.forall_mem_cons.mpr ⟨zo25, List.forall_mem_cons.mpr ⟨zo26, List.forall_mem_cons.mpr ⟨zo27, List.forall_mem_cons.mpr ⟨zo28, List.forall_mem_cons.mpr ⟨zo29, List.forall_mem_cons.mpr ⟨zo30, List.forall_mem_cons.mpr ⟨zo31, List.forall_mem_cons.mpr ⟨zo32, List.forall_mem_cons.mpr ⟨zo33, List.forall_mem_cons.mpr ⟨zo34, List.forall_mem_cons.mpr ⟨zo35, List.forall_mem_cons.mpr ⟨zo36, List.forall_mem_cons.mpr ⟨zo37, List.forall_mem_cons.mpr ⟨zo38, List.forall_mem_cons.mpr ⟨zo39, fun _ h => absurd h List.not_mem_nil⟩⟩⟩⟩⟩⟩⟩⟩⟩⟩⟩⟩⟩⟩⟩⟩⟩⟩⟩⟩
theorem zok_2 : ∀ M ∈ zmt_2, zMok M := List.forall_mem_cons.mpr ⟨zo40, List.forall_mem_cons.mpr ⟨zo41, List.forall_mem_cons.mpr ⟨zo42, List.forall_mem_cons.mpr ⟨zo43, List.forall_mem_cons.mpr ⟨zo44, List.forall_mem_cons.mpr ⟨zo45, List.forall_mem_cons.mpr ⟨zo46, List.forall_mem_cons.mpr ⟨zo47, List.forall_mem_cons.mpr ⟨zo48, List.forall_mem_cons.mpr ⟨zo49, List.forall_mem_cons.mpr ⟨zo50, List.forall_mem_cons.mpr ⟨zo51, List.forall_mem_cons.mpr ⟨zo52, List.forall_mem_cons.mpr ⟨zo53, List.forall_mem_cons.mpr ⟨zo54, List.forall_mem_cons.mpr ⟨zo55, List.forall_mem_cons.mpr ⟨zo56, List.forall_mem_cons.mpr ⟨zo57, List.forall_mem_cons.mpr ⟨zo58, List.forall_mem_cons.mpr ⟨zo59, fun _ h => absurd h List.not_mem_nil⟩⟩⟩⟩⟩⟩⟩⟩⟩⟩⟩⟩⟩⟩⟩⟩⟩⟩⟩⟩
theorem zok_3 : ∀ M ∈ zmt_3, zMok M := List.forall_mem_cons.mpr ⟨zo60, List.forall_mem_cons.mpr ⟨zo61, List.forall_mem_cons.mpr ⟨zo62, List.forall_mem_cons.mpr ⟨zo63, List.forall_mem_cons.mpr ⟨zo64, List.forall_mem_cons.mpr ⟨zo65, List.forall_mem_cons.mpr ⟨zo66, List.forall_mem_cons.mpr ⟨zo67, List.forall_mem_cons.mpr ⟨zo68, List.forall_mem_cons.mpr ⟨zo69, List.forall_mem_cons.mpr ⟨zo70, List.forall_mem_cons.mpr ⟨zo71, List.forall_mem_cons.mpr ⟨zo72, List.forall_mem_cons.mpr ⟨zo73, List.forall_mem_cons.mpr ⟨zo74, List.forall_mem_cons.mpr ⟨zo75, List.forall_mem_cons.mpr ⟨zo76, List.forall_mem_cons.mpr ⟨zo77, List.forall_mem_cons.mpr ⟨zo78, List.forall_mem_cons.mpr ⟨zo79, fun _ h => absurd h List.not_mem_nil⟩⟩⟩⟩⟩⟩⟩⟩⟩⟩⟩⟩⟩⟩⟩⟩⟩⟩⟩⟩
theorem zok_4 : ∀ M ∈ zmt_4, zMok M := List.forall_mem_cons.mpr ⟨zo80, List.forall_mem_cons.mpr ⟨zo81, List.forall_mem_cons.mpr ⟨zo82, List.forall_mem_cons.mpr ⟨zo83, List.forall_mem_cons.mpr ⟨zo84, List.forall_mem_cons.mpr ⟨zo85, List.forall_mem_cons.mpr ⟨zo86, List.forall_mem_cons.mpr ⟨zo87, List.forall_mem_cons.mpr ⟨zo88, List.forall_mem_cons.mpr ⟨zo89, List.forall_mem_cons.mpr ⟨zo90, List.forall_mem_cons.mpr ⟨zo91, List.forall_mem_cons.mpr ⟨zo92, List.forall_mem_cons.mpr ⟨zo93, List.forall_mem_cons.mpr ⟨zo94, List.forall_mem_cons.mpr ⟨zo95, List.forall_mem_cons.mpr ⟨zo96, List.forall_mem_cons.mpr ⟨zo97, List.forall_mem_cons.mpr ⟨zo98, List.forall_mem_cons.mpr ⟨zo99, fun _ h => absurd h List.not_mem_nil⟩⟩⟩⟩⟩⟩⟩⟩⟩⟩⟩⟩⟩⟩⟩⟩⟩⟩⟩⟩
theorem zok_5 : ∀ M ∈ zmt_5, zMok M := List.forall_mem_cons.mpr ⟨zo100, List.forall_mem_cons.mpr ⟨zo101, List.forall_mem_cons.mpr ⟨zo102, List.forall_mem_cons.mpr ⟨zo103, List.forall_mem_cons.mpr ⟨zo104, List.forall_mem_cons.mpr ⟨zo105, List.forall_mem_cons.mpr ⟨zo106, List.forall_mem_cons.mpr ⟨zo107, List.forall_mem_cons.mpr ⟨zo108, List.forall_mem_cons.mpr ⟨zo109, List.forall_mem_cons.mpr ⟨zo110, List.forall_mem_cons.mpr ⟨zo111, List.forall_mem_cons.mpr ⟨zo112, List.forall_mem_cons.mpr ⟨zo113, List.forall_mem_cons.mpr ⟨zo114, List.forall_mem_cons.mpr ⟨zo115, List.forall_mem_cons.mpr ⟨zo116, List.forall_mem_cons.mpr ⟨zo117, List.forall_mem_cons.mpr ⟨zo118, List.forall_mem_cons.mpr ⟨zo119, fun _ h => absurd h List.not_mem_nil⟩⟩⟩⟩⟩⟩⟩⟩⟩⟩⟩⟩⟩⟩⟩⟩⟩⟩⟩⟩
theorem zok_6 : ∀ M ∈ zmt_6, zMok M := List.forall_mem_cons.mpr ⟨zo120, List.forall_mem_cons.mpr ⟨zo121, List.forall_mem_cons.mpr ⟨zo122, List.forall_mem_cons.mpr ⟨zo123, List.forall_mem_cons.mpr ⟨zo124, List.forall_mem_cons.mpr ⟨zo125, List.forall_mem_cons.mpr ⟨zo126, List.forall_mem_cons.mpr ⟨zo127, List.forall_mem_cons.mpr ⟨zo128, List.forall_mem_cons.mpr ⟨zo129, List.forall_mem_cons.mpr ⟨zo130, List.forall_mem_cons.mpr ⟨zo131, List.forall_mem_cons.mpr ⟨zo132, List.forall_mem_cons.mpr ⟨zo133, List.forall_mem_cons.mpr ⟨zo134, List.forall_mem_cons.mpr ⟨zo135, List.forall_mem_cons.mpr ⟨zo136, List.forall_mem_cons.mpr ⟨zo137, List.forall_mem_cons.mpr ⟨zo138, List.forall_mem_cons.mpr ⟨zo139, fun _ h => absurd h List.not_mem_nil⟩⟩⟩⟩⟩⟩⟩⟩⟩⟩⟩⟩⟩⟩⟩⟩⟩⟩⟩⟩
theorem zok_7 : ∀ M ∈ zmt_7, zMok M := List.forall_mem_cons.mpr ⟨zo140, List.forall_mem_cons.mpr ⟨zo141, List.forall_mem_cons.mpr ⟨zo142, List.forall_mem_cons.mpr ⟨zo143, List.forall_mem_cons.mpr ⟨zo144, List.forall_mem_cons.mpr ⟨zo145, List.forall_mem_cons.mpr ⟨zo146, List.forall_mem_cons.mpr ⟨zo147, List.forall_mem_cons.mpr ⟨zo148, List.forall_mem_cons.mpr ⟨zo149, List.forall_mem_cons.mpr ⟨zo150, List.forall_mem_cons.mpr ⟨zo151, List.forall_mem_cons.mpr ⟨zo152, List.forall_mem_cons.mpr ⟨zo153, List.forall_mem_cons.mpr ⟨zo154, List.forall_mem_cons.mpr ⟨zo155, List.forall_mem_cons.mpr ⟨zo156, List.forall_mem_cons.mpr ⟨zo157, List.forall_mem_cons.mpr ⟨zo158, List.forall_mem_cons.mpr ⟨zo159, fun _ h => absurd h List.not_mem_nil⟩⟩⟩⟩⟩⟩⟩⟩⟩⟩⟩⟩⟩⟩⟩⟩⟩⟩⟩⟩
theorem zok_8 : ∀ M ∈ zmt_8, zMok M := List.forall_mem_cons.mpr ⟨zo160, List.forall_mem_cons.mpr ⟨zo161, List.forall_mem_cons.mpr ⟨zo162, List.forall_mem_cons.mpr ⟨zo163, List.forall_mem_cons.mpr ⟨zo164, List.forall_mem_cons.mpr ⟨zo165, List.forall_mem_cons.mpr ⟨zo166, List.forall_mem_cons.mpr ⟨zo167, List.forall_mem_cons.mpr ⟨zo168, List.forall_mem_cons.mpr ⟨zo169, List.forall_mem_cons.mpr ⟨zo170, List.forall_mem_cons.mpr ⟨zo171, List.forall_mem_cons.mpr ⟨zo172, List.forall_mem_cons.mpr ⟨zo173, List.forall_mem_cons.mpr ⟨zo174, List.forall_mem_cons.mpr ⟨zo175, List.forall_mem_cons.mpr ⟨zo176, List.forall_mem_cons.mpr ⟨zo177, List.forall_mem_cons.mpr ⟨zo178, List.forall_mem_cons.mpr ⟨zo179, fun _ h => absurd h List.not_mem_nil⟩⟩⟩⟩⟩⟩⟩⟩⟩⟩⟩⟩⟩⟩⟩⟩⟩⟩⟩⟩
theorem zok_9 : ∀ M ∈ zmt_9, zMok M := List.forall_mem_cons.mpr ⟨zo180, List.forall_mem_cons.mpr ⟨zo181, List.forall_mem_cons.mpr ⟨zo182, List.forall_mem_cons.mpr ⟨zo183, List.forall_mem_cons.mpr ⟨zo184, List.forall_mem_cons.mpr ⟨zo185, List.forall_mem_cons.mpr ⟨zo186, List.forall_mem_cons.mpr ⟨zo187, List.forall_mem_cons.mpr ⟨zo188, List.forall_mem_cons.mpr ⟨zo189, List.forall_mem_cons.mpr ⟨zo190, List.forall_mem_cons.mpr ⟨zo191, List.forall_mem_cons.mpr ⟨zo192, List.forall_mem_cons.mpr ⟨zo193, List.forall_mem_cons.mpr ⟨zo194, List.forall_mem_cons.mpr ⟨zo195, List.forall_mem_cons.mpr ⟨zo196, List.forall_mem_cons.mpr ⟨zo197, List.forall_mem_cons.mpr ⟨zo198, List.forall_mem_cons.mpr ⟨zo199, fun _ h => absurd h List.not_mem_nil⟩⟩⟩⟩⟩⟩⟩⟩⟩⟩⟩⟩⟩⟩⟩⟩⟩⟩⟩⟩
theorem zok_10 : ∀ M ∈ zmt_10, zMok M := List.forall_mem_cons.mpr ⟨zo200, List.forall_mem_cons.mpr ⟨zo201, List.forall_mem_cons.mpr ⟨zo202, List.forall_mem_cons.mpr ⟨zo203, List.forall_mem_cons.mpr ⟨zo204, List.forall_mem_cons.mpr ⟨zo205, List.forall_mem_cons.mpr ⟨zo206, List.forall_mem_cons.mpr ⟨zo207, List.forall_mem_cons.mpr ⟨zo208, List.forall_mem_cons.mpr ⟨zo209, List.forall_mem_cons.mpr ⟨zo210, List.forall_mem_cons.mpr ⟨zo211, List.forall_mem_cons.mpr ⟨zo212, List.forall_mem_cons.mpr ⟨zo213, List.forall_mem_cons.mpr ⟨zo214, List.forall_mem_cons.mpr ⟨zo215, List.forall_mem_cons.mpr ⟨zo216, List.forall_mem_cons.mpr ⟨zo217, List.forall_mem_cons.mpr ⟨zo218, List.forall_mem_cons.mpr ⟨zo219, fun _ h => absurd h List.not_mem_nil⟩⟩⟩⟩⟩⟩⟩⟩⟩⟩⟩⟩⟩⟩⟩⟩⟩⟩⟩⟩
theorem zok_11 : ∀ M ∈ zmt_11, zMok M := List.forall_mem_cons.mpr ⟨zo220, List.forall_mem_cons.mpr ⟨zo221, List.forall_mem_cons.mpr ⟨zo222, List.forall_mem_cons.mpr ⟨zo223, List.forall_mem_cons.mpr ⟨zo224, List.forall_mem_cons.mpr ⟨zo225, List.forall_mem_cons.mpr ⟨zo226, List.forall_mem_cons.mpr ⟨zo227, List.forall_mem_cons.mpr ⟨zo228, List.forall_mem_cons.mpr ⟨zo229, List.forall_mem_cons.mpr ⟨zo230, List.forall_mem_cons.mpr ⟨zo231, List.forall_mem_cons.mpr ⟨zo232, List.forall_mem_cons.mpr ⟨zo233, List.forall_mem_cons.mpr ⟨zo234, List.forall_mem_cons.mpr ⟨zo235, List.forall_mem_cons.mpr ⟨zo236, List.forall_mem_cons.mpr ⟨zo237, List.forall_mem_cons.mpr ⟨zo238, List.forall_mem_cons.mpr ⟨zo239, fun _ h => absurd h List.not_mem_nil⟩⟩⟩⟩⟩⟩⟩⟩⟩⟩⟩⟩⟩⟩⟩⟩⟩⟩⟩⟩
theorem zok_12 : ∀ M ∈ zmt_12, zMok M := List.forall_mem_cons.mpr ⟨zo240, List.forall_mem_cons.mpr ⟨zo241, List.forall_mem_cons.mpr ⟨zo242, List.forall_mem_cons.mpr ⟨zo243, List.forall_mem_cons.mpr ⟨zo244, List.forall_mem_cons.mpr ⟨zo245, List.forall_mem_cons.mpr ⟨zo246, List.forall_mem_cons.mpr ⟨zo247, List.forall_mem_cons.mpr ⟨zo248, List.forall_mem_cons.mpr ⟨zo249, List.forall_mem_cons.mpr ⟨zo250, List.forall_mem_cons.mpr ⟨zo251, List.forall_mem_cons.mpr ⟨zo252, List.forall_mem_cons.mpr ⟨zo253, List.forall_mem_cons.mpr ⟨zo254, List.forall_mem_cons.mpr ⟨zo255, List.forall_mem_cons.mpr ⟨zo256, List.forall_mem_cons.mpr ⟨zo257, List.forall_mem_cons.mpr ⟨zo258, List.forall_mem_cons.mpr ⟨zo259, fun _ h => absurd h List.not_mem_nil⟩⟩⟩⟩⟩⟩⟩⟩⟩⟩⟩⟩⟩⟩⟩⟩⟩⟩⟩⟩
theorem zok_13 : ∀ M ∈ zmt_13, zMok M := List.forall_mem_cons.mpr ⟨zo260, List.forall_mem_cons.mpr ⟨zo261, List.forall_mem_cons.mpr ⟨zo262, List.forall_mem_cons.mpr ⟨zo263, List.forall_mem_cons.mpr ⟨zo264, List.forall_mem_cons.mpr ⟨zo265, List.forall_mem_cons.mpr ⟨zo266, List.forall_mem_cons.mpr ⟨zo267, List.forall_mem_cons.mpr ⟨zo268, List.forall_mem_cons.mpr ⟨zo269, List.forall_mem_cons.mpr ⟨zo270, List.forall_mem_cons.mpr ⟨zo271, List.forall_mem_cons.mpr ⟨zo272, List.forall_mem_cons.mpr ⟨zo273, List.forall_mem_cons.mpr ⟨zo274, List.forall_mem_cons.mpr ⟨zo275, List.forall_mem_cons.mpr ⟨zo276, List.forall_mem_cons.mpr ⟨zo277, List.forall_mem_cons.mpr ⟨zo278, List.forall_mem_cons.mpr ⟨zo279, fun _ h => absurd h List.not_mem_nil⟩⟩⟩⟩⟩⟩⟩⟩⟩⟩⟩⟩⟩⟩⟩⟩⟩⟩⟩⟩
theorem zok_14 : ∀ M ∈ zmt_14, zMok M := List.forall_mem_cons.mpr ⟨zo280, List.forall_mem_cons.mpr ⟨zo281, List.forall_mem_cons.mpr ⟨zo282, List.forall_mem_cons.mpr ⟨zo283, List.forall_mem_cons.mpr ⟨zo284, List.forall_mem_cons.mpr ⟨zo285, List.forall_mem_cons.mpr ⟨zo286, List.forall_mem_cons.mpr ⟨zo287, List.forall_mem_cons.mpr ⟨zo288, List.forall_mem_cons.mpr ⟨zo289, List.forall_mem_cons.mpr ⟨zo290, List.forall_mem_cons.mpr ⟨zo291, List.forall_mem_cons.mpr ⟨zo292, List.forall_mem_cons.mpr ⟨zo293, List.forall_mem_cons.mpr ⟨zo294, List.forall_mem_cons.mpr ⟨zo295, List.forall_mem_cons.mpr ⟨zo296, List.forall_mem_cons.mpr ⟨zo297, List.forall_mem_cons.mpr ⟨zo298, List.forall_mem_cons.mpr ⟨zo299, fun _ h => absurd h List.not_mem_nil⟩⟩⟩⟩⟩⟩⟩⟩⟩⟩⟩⟩⟩⟩⟩⟩⟩⟩⟩⟩
theorem zok_15 : ∀ M ∈ zmt_15, zMok M := List.forall_mem_cons.mpr ⟨zo300, List.forall_mem_cons.mpr ⟨zo301, List.forall_mem_cons.mpr ⟨zo302, List.forall_mem_cons.mpr ⟨zo303, List.forall_mem_cons.mpr ⟨zo304, List.forall_mem_cons.mpr ⟨zo305, List.forall_mem_cons.mpr ⟨zo306, List.forall_mem_cons.mpr ⟨zo307, List.forall_mem_cons.mpr ⟨zo308, List.forall_mem_cons.mpr ⟨zo309, List.forall_mem_cons.mpr ⟨zo310, List.forall_mem_cons.mpr ⟨zo311, List.forall_mem_cons.mpr ⟨zo312, List.forall_mem_cons.mpr ⟨zo313, List.forall_mem_cons.mpr ⟨zo314, List.forall_mem_cons.mpr ⟨zo315, List.forall_mem_cons.mpr ⟨zo316, List.forall_mem_cons.mpr ⟨zo317, List.forall_mem_cons.mpr ⟨zo318, List.forall_mem_cons.mpr ⟨zo319, fun _ h => absurd h List.not_mem_nil⟩⟩⟩⟩⟩⟩⟩⟩⟩⟩⟩⟩⟩⟩⟩⟩⟩⟩⟩⟩
theorem zok_16 : ∀ M ∈ zmt_16, zMok M := List.forall_mem_cons.mpr ⟨zo320, List.forall_mem_cons.mpr ⟨zo321, List.forall_mem_cons.mpr ⟨zo322, List.forall_mem_cons.mpr ⟨zo323, List.forall_mem_cons.mpr ⟨zo324, List.forall_mem_cons.mpr ⟨zo325, List.forall_mem_cons.mpr ⟨zo326, List.forall_mem_cons.mpr ⟨zo327, List.forall_mem_cons.mpr ⟨zo328, List.forall_mem_cons.mpr ⟨zo329, List.forall_mem_cons.mpr ⟨zo330, List.forall_mem_cons.mpr ⟨zo331, List.forall_mem_cons.mpr ⟨zo332, fun _ h => absurd h List.not_mem_nil⟩⟩⟩⟩⟩⟩⟩⟩⟩⟩⟩⟩⟩
theorem zmt_ok : ∀ M ∈ zmt, zMok M := List.forall_mem_append.mpr ⟨zok_0, List.forall_mem_append.mpr ⟨zok_1, List.forall_mem_append.mpr ⟨zok_2, List.forall_mem_append.mpr ⟨zok_3, List.forall_mem_append.mpr ⟨zok_4, List.forall_mem_append.mpr ⟨zok_5, List.forall_mem_append.mpr ⟨zok_6, List.forall_mem_append.mpr ⟨zok_7, List.forall_mem_append.mpr ⟨zok_8, List.forall_mem_append.mpr ⟨zok_9, List.forall_mem_append.mpr ⟨zok_10, List.forall_mem_append.mpr ⟨zok_11, List.forall_mem_append.mpr ⟨zok_12, List.forall_mem_append.mpr ⟨zok_13, List.forall_mem_append.mpr ⟨zok_14, List.forall_mem_append.mpr ⟨zok_15, zok_16⟩⟩⟩⟩⟩⟩⟩⟩⟩⟩⟩⟩⟩⟩⟩⟩
theorem zlw_0 : zchk 13 code zI333_0 = true := zf_ok 0 (by decide +kernel)
theorem zlw_1 : zchk 13 code zI333_1 = true := zf_ok 354 (by decide +kernel)
theorem zlw_2 : zchk 13 code zI333_2 = true := zf_ok 484 (by decide +kernel)
theorem zlw_3 : zchk 13 code zI333_3 = true := zf_ok 604 (by decide +kernel)
theorem zlw_4 : zchk 13 code zI333_4 = true := zf_ok 722 (by decide +kernel)
theorem zlw_5 : zchk 13 code zI333_5 = true := zf_ok 834 (by decide +kernel)
theorem zlw_6 : zchk 13 code zI333_6 = true := zf_ok 950 (by decide +kernel)
theorem zlw_7 : zchk 13 code zI333_7 = true := zf_ok 1070 (by decide +kernel)
theorem zlw_8 : zchk 13 code zI333_8 = true := zf_ok 1188 (by decide +kernel)
theorem zlw_9 : zchk 13 code zI333_9 = true := zf_ok 1304 (by decide +kernel)
theorem zlw_10 : zchk 13 code zI333_10 = true := zf_ok 1434 (by decide +kernel)
theorem zlw_11 : zchk 13 code zI333_11 = true := zf_ok 1554 (by decide +kernel)
theorem zlw_12 : zchk 13 code zI333_12 = true := zf_ok 1676 (by decide +kernel)
theorem zlw_13 : zchk 13 code zI333_13 = true := zf_ok 1796 (by decide +kernel)
theorem zlw_14 : zchk 13 code zI333_14 = true := zf_ok 1914 (by decide +kernel)
theorem zlw_15 : zchk 13 code zI333_15 = true := zf_ok 2030 (by decide +kernel)
theorem zchk_app {o : Nat} {b : ByteArray} {x y : List aI} (h1 : zchk o b x = true) (h2 : zchk o b y = true) : zchk o b (x ++ y) = true := by
  unfold zchk at *
  rw [List.all_append, h1, h2]
  rfl
theorem zlw_ok : zchk 13 code zI333 = true := zchk_app zlw_0 (zchk_app zlw_1 (zchk_app zlw_2 (zchk_app zlw_3 (zchk_app zlw_4 (zchk_app zlw_5 (zchk_app zlw_6 (zchk_app zlw_7 (zchk_app zlw_8 (zchk_app zlw_9 (zchk_app zlw_10 (zchk_app zlw_11 (zchk_app zlw_12 (zchk_app zlw_13 (zchk_app zlw_14 (zlw_15)))))))))))))))
end
section
-- ===== a small machine of our own over cells by number: what a method does, as a function =====
abbrev aC : Type := (Nat × vp_A) ⊕ (Nat × List Value)
abbrev aH : Type := List aC × Nat
abbrev aL : Type := List (Option Value)
abbrev aR : Type := Option Value × aH
abbrev aX : Type := Nat → Option (Nat × (Nat → Int32))
def aF (pc : Nat) : List aI → Option aI
  | [] => none
  | q :: r => bif Nat.beq q.1 pc then some q else aF pc r
def aG (L : aL) (i : Nat) : Option Value := match L[i]? with
  | some (some v) => some v
  | _ => none
def aclr (L : aL) (i : Nat) : aL := match i with
  | 0 => L
  | j + 1 => match L[j]? with
    | some (some (.long _)) => L.set j none
    | some (some (.double _)) => L.set j none
    | _ => L
def aS1 (L : aL) (i : Nat) (v : Value) : aL := (aclr L i).set i (some v)
def aS2 (L : aL) (i : Nat) (v : Value) : aL := ((aclr L i).set i (some v)).set (i + 1) none
def aE : Nat → List Value → aL
  | n, [] => List.replicate n none
  | n, v :: r => bif Nat.beq v.category 2 then some v :: none :: aE (n - 2) r else some v :: aE (n - 1) r
def aws : List Value → Nat
  | [] => 0
  | v :: r => v.category + aws r
def aok1 (v : Value) : Bool := match v with
  | .long _ => false
  | .double _ => false
  | _ => true
-- what lies on top of the stack
def tI (st : List Value) (f : Int32 → List Value → Option aR) : Option aR := match st with
  | .int x :: r => f x r
  | _ => none
def tII (st : List Value) (f : Int32 → Int32 → List Value → Option aR) : Option aR := match st with
  | .int y :: .int x :: r => f x y r
  | _ => none
def tJ (st : List Value) (f : Int64 → List Value → Option aR) : Option aR := match st with
  | .long x :: r => f x r
  | _ => none
def tJJ (st : List Value) (f : Int64 → Int64 → List Value → Option aR) : Option aR := match st with
  | .long y :: .long x :: r => f x y r
  | _ => none
def tJI (st : List Value) (f : Int64 → Int32 → List Value → Option aR) : Option aR := match st with
  | .int y :: .long x :: r => f x y r
  | _ => none
def aok (ty : FieldType) (v : Value) : Bool := match ty, v with
  | .int, .int _ => true
  | .long, .long _ => true
  | .boolean, .int x => x == 0 || x == 1
  | .object _, .ref _ => true
  | .object _, .null => true
  | .array _, .ref _ => true
  | .array _, .null => true
  | _, _ => false
def aobj (h : aH) (o a : Nat) (f : List Value → Option aR) : Option aR := match h.1[o]? with
  | some (.inr (ci, fs)) => bif Nat.beq ci a then f fs else none
  | _ => none
def aarI (h : aH) (o : Nat) (f : Nat → Nat → (Nat → Int32) → Option aR) : Option aR := match h.1[o]? with
  | some (.inl (t, n, .inl g)) => f t n g
  | _ => none
def aarJ (h : aH) (o : Nat) (f : Nat → (Nat → Int64) → Option aR) : Option aR := match h.1[o]? with
  | some (.inl (1, n, .inr (.inl g))) => f n g
  | _ => none
def aarR (h : aH) (o : Nat) (f : Nat → Nat → (Nat → Option Nat) → Option aR) : Option aR := match h.1[o]? with
  | some (.inl (t, n, .inr (.inr (.inr (.inr g))))) => f t n g
  | _ => none
def arf (x : Option Nat) : Value := match x with
  | some q => .ref q
  | none => .null
def azero (t : Nat) : (Nat → Int32) ⊕ (Nat → Int64) ⊕ (Nat → UInt32) ⊕ (Nat → UInt64) ⊕ (Nat → Option Nat) := match t with
  | 1 => .inr (.inl (fun _ => 0))
  | _ => .inl (fun _ => 0)
def asw (x : Int32) (k : Int → Option aR) (d : Int) : Int → List Int → Option aR
  | _, [] => k d
  | lo, o :: r => if x = Int32.ofInt lo then k o else asw x k d (lo + 1) r
def alw (x : Int32) (k : Int → Option aR) (d : Int) : List (Int × Int) → Option aR
  | [] => k d
  | q :: r => if x = Int32.ofInt q.1 then k q.2 else alw x k d r
set_option maxHeartbeats 4000000 in
def aX1 (X : aX) (own kind : Nat) (k : Nat → aL → List Value → aH → Option aR) (i : aI) (L : aL) (st : List Value) (h : aH) : Option aR := match i.2.1 with
  | .aconst_null => k (i.1 + 1) L (.null :: st) h
  | .iconst z => k (i.1 + 1) L (.int (Int32.ofInt z) :: st) h
  | .bipush z => k (i.1 + 2) L (.int (Int8.ofInt z).toInt32 :: st) h
  | .sipush z => k (i.1 + 3) L (.int (Int16.ofInt z).toInt32 :: st) h
  | .lconst z => k (i.1 + 1) L (.long (Int64.ofNat z) :: st) h
  | .ldc _ => bif Nat.beq i.2.2.2.1 4294967296 then k (i.1 + 2) L (.retAddr 2 :: st) h else k (i.1 + 2) L (.int (Int32.ofNat i.2.2.2.1) :: st) h
  | .ldc_w _ => k (i.1 + 3) L (.int (Int32.ofNat i.2.2.2.1) :: st) h
  | .ldc2_w _ => k (i.1 + 3) L (.long (Int64.ofNat i.2.2.2.1) :: st) h
  | .iload_n z => match aG L z with
    | some (.int x) => k (i.1 + 1) L (.int x :: st) h
    | _ => none
  | .iload z => match aG L z with
    | some (.int x) => k (i.1 + 2) L (.int x :: st) h
    | _ => none
  | .lload_n z => match aG L z with
    | some (.long x) => k (i.1 + 1) L (.long x :: st) h
    | _ => none
  | .lload z => match aG L z with
    | some (.long x) => k (i.1 + 2) L (.long x :: st) h
    | _ => none
  | .aload_n z => match aG L z with
    | some (.ref x) => k (i.1 + 1) L (.ref x :: st) h
    | some (.retAddr x) => k (i.1 + 1) L (.retAddr x :: st) h
    | some .null => k (i.1 + 1) L (.null :: st) h
    | _ => none
  | .aload z => match aG L z with
    | some (.ref x) => k (i.1 + 2) L (.ref x :: st) h
    | some (.retAddr x) => k (i.1 + 2) L (.retAddr x :: st) h
    | some .null => k (i.1 + 2) L (.null :: st) h
    | _ => none
  | .istore_n z => tI st fun x r => bif Nat.blt z L.length then k (i.1 + 1) (aS1 L z (.int x)) r h else none
  | .istore z => tI st fun x r => bif Nat.blt z L.length then k (i.1 + 2) (aS1 L z (.int x)) r h else none
  | .lstore_n z => tJ st fun x r => bif Nat.blt (z + 1) L.length then k (i.1 + 1) (aS2 L z (.long x)) r h else none
  | .lstore z => tJ st fun x r => bif Nat.blt (z + 1) L.length then k (i.1 + 2) (aS2 L z (.long x)) r h else none
  | .astore_n z => match st with
    | .ref x :: r => bif Nat.blt z L.length then k (i.1 + 1) (aS1 L z (.ref x)) r h else none
    | .null :: r => bif Nat.blt z L.length then k (i.1 + 1) (aS1 L z .null) r h else none
    | _ => none
  | .astore z => match st with
    | .ref x :: r => bif Nat.blt z L.length then k (i.1 + 2) (aS1 L z (.ref x)) r h else none
    | .null :: r => bif Nat.blt z L.length then k (i.1 + 2) (aS1 L z .null) r h else none
    | _ => none
  | .iinc z c => match aG L z with
    | some (.int x) => k (i.1 + 3) (aS1 L z (.int (x + Int32.ofInt c))) st h
    | _ => none
  | .iadd => tII st fun x y r => k (i.1 + 1) L (.int (x + y) :: r) h
  | .isub => tII st fun x y r => k (i.1 + 1) L (.int (x - y) :: r) h
  | .imul => tII st fun x y r => k (i.1 + 1) L (.int (x * y) :: r) h
  | .iand => tII st fun x y r => k (i.1 + 1) L (.int (x &&& y) :: r) h
  | .ior => tII st fun x y r => k (i.1 + 1) L (.int (x ||| y) :: r) h
  | .ixor => tII st fun x y r => k (i.1 + 1) L (.int (x ^^^ y) :: r) h
  | .ishl => tII st fun x y r => k (i.1 + 1) L (.int (x <<< (y &&& 31)) :: r) h
  | .ishr => tII st fun x y r => k (i.1 + 1) L (.int (x >>> (y &&& 31)) :: r) h
  | .iushr => tII st fun x y r => k (i.1 + 1) L (.int (x.toUInt32 >>> (y.toUInt32 &&& Int32.toUInt32 31)).toInt32 :: r) h
  | .idiv => tII st fun x y r => if y = 0 then none else k (i.1 + 1) L (.int (x / y) :: r) h
  | .irem => tII st fun x y r => if y = 0 then none else k (i.1 + 1) L (.int (x - x / y * y) :: r) h
  | .ineg => tI st fun x r => k (i.1 + 1) L (.int (-x) :: r) h
  | .ladd => tJJ st fun x y r => k (i.1 + 1) L (.long (x + y) :: r) h
  | .lsub => tJJ st fun x y r => k (i.1 + 1) L (.long (x - y) :: r) h
  | .lmul => tJJ st fun x y r => k (i.1 + 1) L (.long (x * y) :: r) h
  | .land => tJJ st fun x y r => k (i.1 + 1) L (.long (x &&& y) :: r) h
  | .lor => tJJ st fun x y r => k (i.1 + 1) L (.long (x ||| y) :: r) h
  | .ldiv => tJJ st fun x y r => if y = 0 then none else k (i.1 + 1) L (.long (x / y) :: r) h
  | .lrem => tJJ st fun x y r => if y = 0 then none else k (i.1 + 1) L (.long (x - x / y * y) :: r) h
  | .lshl => tJI st fun x y r => k (i.1 + 1) L (.long (x <<< (y.toInt64 &&& 63)) :: r) h
  | .lcmp => tJJ st fun x y r => k (i.1 + 1) L (.int (lg_cmp x y) :: r) h
  | .i2l => tI st fun x r => k (i.1 + 1) L (.long x.toInt64 :: r) h
  | .l2i => tJ st fun x r => k (i.1 + 1) L (.int x.toInt32 :: r) h
  | .i2b => tI st fun x r => k (i.1 + 1) L (.int x.toInt8.toInt32 :: r) h
  | .i2s => tI st fun x r => k (i.1 + 1) L (.int x.toInt16.toInt32 :: r) h
  | .i2c => tI st fun x r => k (i.1 + 1) L (.int (x.toUInt32 % 65536).toInt32 :: r) h
  | .dup => match st with
    | v :: r => bif aok1 v then k (i.1 + 1) L (v :: v :: r) h else none
    | _ => none
  | .dup2 => match st with
    | v :: w :: r => bif aok1 v && aok1 w then k (i.1 + 1) L (v :: w :: v :: w :: r) h else none
    | _ => none
  | .dup_x1 => match st with
    | v :: w :: r => bif aok1 v && aok1 w then k (i.1 + 1) L (v :: w :: v :: r) h else none
    | _ => none
  | .pop => match st with
    | v :: r => bif aok1 v then k (i.1 + 1) L r h else none
    | _ => none
  | .pop2 => match st with
    | .long _ :: r => k (i.1 + 1) L r h
    | _ => none
  | .goto _ => k i.2.2.2.1 L st h
  | .ifCond c _ => tI st fun x r => match c with
    | .eq => if x = 0 then k i.2.2.2.1 L r h else k (i.1 + 3) L r h
    | .ne => if x = 0 then k (i.1 + 3) L r h else k i.2.2.2.1 L r h
    | .lt => if x < 0 then k i.2.2.2.1 L r h else k (i.1 + 3) L r h
    | .ge => if 0 ≤ x then k i.2.2.2.1 L r h else k (i.1 + 3) L r h
    | .gt => if 0 < x then k i.2.2.2.1 L r h else k (i.1 + 3) L r h
    | .le => if x ≤ 0 then k i.2.2.2.1 L r h else k (i.1 + 3) L r h
  | .if_icmp c _ => tII st fun x y r => match c with
    | .eq => if x = y then k i.2.2.2.1 L r h else k (i.1 + 3) L r h
    | .ne => if x = y then k (i.1 + 3) L r h else k i.2.2.2.1 L r h
    | .lt => if x < y then k i.2.2.2.1 L r h else k (i.1 + 3) L r h
    | .ge => if y ≤ x then k i.2.2.2.1 L r h else k (i.1 + 3) L r h
    | .gt => if y < x then k i.2.2.2.1 L r h else k (i.1 + 3) L r h
    | .le => if x ≤ y then k i.2.2.2.1 L r h else k (i.1 + 3) L r h
  | .ifnull _ => match st with
    | .ref _ :: r => k (i.1 + 3) L r h
    | .null :: r => k i.2.2.2.1 L r h
    | _ => none
  | .ifnonnull _ => match st with
    | .ref _ :: r => k i.2.2.2.1 L r h
    | .null :: r => k (i.1 + 3) L r h
    | _ => none
  | .tableswitch d lo _ offs => tI st fun x r => asw x (fun o => k ((i.1 : Int) + o).toNat L r h) d lo offs.toList
  | .lookupswitch d ps => tI st fun x r => alw x (fun o => k ((i.1 : Int) + o).toNat L r h) d ps.toList
  | .getfield _ => match st with
    | .ref o :: r => aobj h o i.2.2.2.1 fun fs => match fs[i.2.2.2.2]? with
      | some v => k (i.1 + 3) L (v :: r) h
      | none => none
    | _ => none
  | .putfield _ => match st with
    | v :: .ref o :: r => aobj h o i.2.2.2.1 fun fs => bif (!((zT i.2.2.2.1 i.2.2.2.2).2.2.2) || (Nat.beq kind 2 && Nat.beq own i.2.2.2.1)) && aok (zY i.2.2.2.1 i.2.2.2.2) v && Nat.blt i.2.2.2.2 fs.length then k (i.1 + 3) L r (h.1.set o (.inr (i.2.2.2.1, fs.set i.2.2.2.2 v)), h.2) else none
    | _ => none
  | .getstatic _ => k (i.1 + 3) L (.retAddr 0 :: st) h
  | .arraylength => match st with
    | .ref o :: r => match h.1[o]? with
      | some (.inl (0, n, _)) => k (i.1 + 1) L (.int (Int32.ofNat n) :: r) h
      | some (.inl (1, n, _)) => k (i.1 + 1) L (.int (Int32.ofNat n) :: r) h
      | _ => none
    | .retAddr e :: r => match X e with
      | some (n, _) => k (i.1 + 1) L (.int (Int32.ofNat n) :: r) h
      | none => none
    | _ => none
  | .iaload => match st with
    | .int j :: .ref o :: r => aarI h o fun t n g => bif Nat.beq t 0 then (if j < 0 ∨ n ≤ j.toNatClampNeg then none else k (i.1 + 1) L (.int (g j.toNatClampNeg) :: r) h) else none
    | .int j :: .retAddr e :: r => match X e with
      | some (n, g) => if j < 0 ∨ n ≤ j.toNatClampNeg then none else k (i.1 + 1) L (.int (g j.toNatClampNeg) :: r) h
      | none => none
    | _ => none
  | .baload => match st with
    | .int j :: .ref o :: r => aarI h o fun t n g => bif Nat.beq t 2 || Nat.beq t 3 then (if j < 0 ∨ n ≤ j.toNatClampNeg then none else k (i.1 + 1) L (.int (g j.toNatClampNeg) :: r) h) else none
    | _ => none
  | .laload => match st with
    | .int j :: .ref o :: r => aarJ h o fun n g => if j < 0 ∨ n ≤ j.toNatClampNeg then none else k (i.1 + 1) L (.long (g j.toNatClampNeg) :: r) h
    | _ => none
  | .aaload => match st with
    | .int j :: .ref o :: r => aarR h o fun t n g => bif Nat.beq t 4 || Nat.beq t 5 then (if j < 0 ∨ n ≤ j.toNatClampNeg then none else k (i.1 + 1) L (arf (g j.toNatClampNeg) :: r) h) else none
    | _ => none
  | .iastore => match st with
    | .int x :: .int j :: .ref o :: r => aarI h o fun t n g => bif Nat.beq t 0 then (if j < 0 ∨ n ≤ j.toNatClampNeg then none else k (i.1 + 1) L r (h.1.set o (.inl (0, n, .inl (upd g j.toNatClampNeg x))), h.2)) else none
    | _ => none
  | .bastore => match st with
    | .int x :: .int j :: .ref o :: r => aarI h o fun t n g => match t with
      | 2 => if j < 0 ∨ n ≤ j.toNatClampNeg then none else k (i.1 + 1) L r (h.1.set o (.inl (2, n, .inl (upd g j.toNatClampNeg (x &&& 1)))), h.2)
      | 3 => if j < 0 ∨ n ≤ j.toNatClampNeg then none else k (i.1 + 1) L r (h.1.set o (.inl (3, n, .inl (upd g j.toNatClampNeg x.toInt8.toInt32))), h.2)
      | _ => none
    | _ => none
  | .lastore => match st with
    | .long x :: .int j :: .ref o :: r => aarJ h o fun n g => if j < 0 ∨ n ≤ j.toNatClampNeg then none else k (i.1 + 1) L r (h.1.set o (.inl (1, n, .inr (.inl (vp_updL g j.toNatClampNeg x)))), h.2)
    | _ => none
  | .aastore => match st with
    | .ref q :: .int j :: .ref o :: r => aarR h o fun t n g => bif Nat.beq t 4 then aobj h q 8 fun _ => (if j < 0 ∨ n ≤ j.toNatClampNeg then none else k (i.1 + 1) L r (h.1.set o (.inl (4, n, .inr (.inr (.inr (.inr (va_up g j.toNatClampNeg (some q))))))), h.2)) else bif Nat.beq t 5 then aarI h q fun t' _ _ => bif Nat.beq t' 0 then (if j < 0 ∨ n ≤ j.toNatClampNeg then none else k (i.1 + 1) L r (h.1.set o (.inl (5, n, .inr (.inr (.inr (.inr (va_up g j.toNatClampNeg (some q))))))), h.2)) else none else none
    | _ => none
  | .new _ => k (i.1 + 3) L (.ref h.1.length :: st) (h.1 ++ [.inr (i.2.2.2.1, (List.range (zN i.2.2.2.1)).map (fun c => defaultValue (zY i.2.2.2.1 c)))], h.2 + zN i.2.2.2.1)
  | .newarray _ => tI st fun x r => if x < 0 ∨ 100000 < x then none else k (i.1 + 2) L (.ref h.1.length :: r) (h.1 ++ [.inl (i.2.2.2.1, x.toNatClampNeg, azero i.2.2.2.1)], h.2 + x.toNatClampNeg)
  | .anewarray _ => tI st fun x r => if x < 0 ∨ 100000 < x then none else k (i.1 + 3) L (.ref h.1.length :: r) (h.1 ++ [.inl (i.2.2.2.1, x.toNatClampNeg, .inr (.inr (.inr (.inr (fun _ => none)))))], h.2 + x.toNatClampNeg)
  | _ => none
def acut (n : Nat) (st : List Value) (f : List Value → List Value → Option aR) : Option aR := bif Nat.ble n st.length then f (st.take n).reverse (st.drop n) else none
def aback (d : Nat) (r : List Value) (callee : Nat → Option aR) (k : List Value → aH → Option aR) : Option aR := match d with
  | 0 => none
  | d' + 1 => bif Nat.ble (aws r) 8 then (match callee d' with
    | some q => k (q.1.toList ++ r) q.2
    | none => none) else none
def aent (Y : aM) (as : List Value) (f : Unit → Option aR) : Option aR := bif Nat.ble (aws as) Y.2.2.2.1 then f () else none
def aretI (ret : Option FieldType) (x : Int32) (h : aH) : Option aR := match ret with
  | some .int => some (some (.int x), h)
  | some .boolean => if x = 0 ∨ x = 1 then some (some (.int x), h) else none
  | _ => none
def amath (a d : Nat) (st : List Value) (k : List Value → Option aR) : Option aR := match d, a with
  | 0, _ => none
  | _ + 1, 1010 => tII st fun x y r => bif Nat.ble (aws r) 8 then k (.int (if x < y then y else x) :: r) else none
  | _ + 1, 1011 => tII st fun x y r => bif Nat.ble (aws r) 8 then k (.int (if y < x then y else x) :: r) else none
  | _ + 1, 1012 => tI st fun x r => bif Nat.ble (aws r) 8 then k (.int (if 0 ≤ x then x else 0 - x) :: r) else none
  | _ + 1, 1013 => tJJ st fun x y r => bif Nat.ble (aws r) 8 then k (.long (if y < x then x else y) :: r) else none
  | _ + 1, 1014 => tJJ st fun x y r => bif Nat.ble (aws r) 8 then k (.long (if y < x then y else x) :: r) else none
  | _, _ => none
def afit (f : Nat → Int32) (sp n : Nat) : Bool := (List.range n).all (fun i => fits .byte (.int (f (sp + i))))
def acopy (d : Nat) (st : List Value) (h : aH) (k : List Value → aH → Option aR) : Option aR := match d, st with
  | _ + 1, .int n :: .int dp :: .ref a :: .int sp :: .ref a0 :: r => bif Nat.ble (aws r) 8 then (match h.1[a0]?, h.1[a]? with
    | some (.inl (3, n0, .inl f)), some (.inl (3, n1, .inl g)) => if sp < 0 ∨ dp < 0 ∨ n < 0 ∨ n0 < sp.toNatClampNeg + n.toNatClampNeg ∨ n1 < dp.toNatClampNeg + n.toNatClampNeg then none else bif afit f sp.toNatClampNeg n.toNatClampNeg then k r (h.1.set a (.inl (3, n1, .inl (va_cpy f g sp.toNatClampNeg dp.toNatClampNeg n.toNatClampNeg))), h.2) else none
    | some (.inl (1, n0, .inr (.inl f))), some (.inl (1, n1, .inr (.inl g))) => if sp < 0 ∨ dp < 0 ∨ n < 0 ∨ n0 < sp.toNatClampNeg + n.toNatClampNeg ∨ n1 < dp.toNatClampNeg + n.toNatClampNeg then none else k r (h.1.set a (.inl (1, n1, .inr (.inl (va_cpy f g sp.toNatClampNeg dp.toNatClampNeg n.toNatClampNeg)))), h.2)
    | some (.inl (0, n0, .inl f)), some (.inl (0, n1, .inl g)) => if sp < 0 ∨ dp < 0 ∨ n < 0 ∨ n0 < sp.toNatClampNeg + n.toNatClampNeg ∨ n1 < dp.toNatClampNeg + n.toNatClampNeg then none else k r (h.1.set a (.inl (0, n1, .inl (va_cpy f g sp.toNatClampNeg dp.toNatClampNeg n.toNatClampNeg))), h.2)
    | _, _ => none) else none
  | _, _ => none
def zNS : List Int32 := [121, 107, 115, 102, 103, 99, 116, 108, 101, 112, 109, 106, 98]
def zIxF (c : Int32) : Nat → List Int32 → Int32
  | _, [] => -1
  | n, x :: r => if x = c then Int32.ofNat n else zIxF c (n + 1) r
def zIx (c : Int32) : Int32 := zIxF c 0 zNS
def aixof (d : Nat) (st : List Value) (k : List Value → Option aR) : Option aR := match d, st with
  | _ + 5, .int c :: .retAddr 2 :: r => bif Nat.ble (aws r) 8 then k (.int (zIx c) :: r) else none
  | _, _ => none
def arun (X : aX) : Nat → Nat → aM → Nat → aL → List Value → aH → Option aR
  | 0, _, _, _, _, _, _ => none
  | n + 1, d, M, pc, L, st, h => match aF pc M.2.2.2.2.2.2.2 with
    | none => none
    | some i => match i.2.1 with
      | .ireturn => (match st with
        | [.int x] => aretI M.2.2.2.2.1 x h
        | _ => none)
      | .lreturn => (match st, M.2.2.2.2.1 with
        | [.long x], some .long => some (some (.long x), h)
        | _, _ => none)
      | .areturn => (match st, M.2.2.2.2.1 with
        | [.ref x], some (.object _) => some (some (.ref x), h)
        | _, _ => none)
      | .return_ => (match st, M.2.2.2.2.1 with
        | [], none => some (none, h)
        | _, _ => none)
      | .invokestatic _ => bif Nat.beq i.2.2.2.1 1002 then acopy d st h (fun st' h' => arun X n d M (i.1 + 3) L st' h') else bif Nat.ble 1010 i.2.2.2.1 then amath i.2.2.2.1 d st (fun st' => arun X n d M (i.1 + 3) L st' h) else (match zmt[i.2.2.2.1]? with
        | some Y => bif Nat.beq Y.2.2.2.2.2.2.1 1 then acut Y.2.2.2.2.2.1 st fun as r => aent Y as fun _ => aback d r (fun d' => arun X n d' Y 0 (aE Y.2.2.2.1 as) [] h) (fun st' h' => arun X n d M (i.1 + 3) L st' h') else none
        | none => none)
      | .invokevirtual _ => bif Nat.beq i.2.2.2.1 1001 then aixof d st (fun st' => arun X n d M (i.1 + 3) L st' h) else (match zmt[i.2.2.2.1]? with
        | some Y => bif Nat.beq Y.2.2.2.2.2.2.1 0 then acut Y.2.2.2.2.2.1 st fun as r => (match r with
          | .ref o :: r' => aobj h o Y.1 fun _ => aent Y (.ref o :: as) fun _ => aback d r' (fun d' => arun X n d' Y 0 (aE Y.2.2.2.1 (.ref o :: as)) [] h) (fun st' h' => arun X n d M (i.1 + 3) L st' h')
          | _ => none) else none
        | none => none)
      | .invokespecial _ => bif Nat.beq i.2.2.2.1 1000 then (match st with
          | .ref _ :: r' => aback d r' (fun _ => some (none, h)) (fun st' h' => arun X n d M (i.1 + 3) L st' h')
          | _ => none) else (match zmt[i.2.2.2.1]? with
        | some Y => bif Nat.beq Y.2.2.2.2.2.2.1 2 then acut Y.2.2.2.2.2.1 st fun as r => (match r with
          | .ref o :: r' => aent Y (.ref o :: as) fun _ => aback d r' (fun d' => arun X n d' Y 0 (aE Y.2.2.2.1 (.ref o :: as)) [] h) (fun st' h' => arun X n d M (i.1 + 3) L st' h')
          | _ => none) else none
        | none => none)
      | _ => aX1 X M.1 M.2.2.2.2.2.2.1 (arun X n d M) i L st h
end
section
-- ===== what our machine does, the machine does: one row an instruction =====
def acv (b0 : Nat) (ea : Nat → Nat) (v : Value) : Value := match v with
  | .ref k => .ref (b0 + k)
  | .retAddr x => .ref (ea x)
  | v => v
def acA (b0 : Nat) (x : vp_A) : vp_A := match x with
  | (n, .inr (.inr (.inr (.inr f)))) => (n, .inr (.inr (.inr (.inr (fun i => (f i).map (fun k => b0 + k))))))
  | x => x
def acc (b0 : Nat) (ea : Nat → Nat) (cA : Nat → ClassId) (x : aC) : va_E := match x with
  | .inl (t, y) => .inl (cA t, acA b0 y)
  | .inr (ci, fs) => .inr (ci, fs.map (acv b0 ea))
def awd (b0 : Nat) (ea : Nat → Nat) (cA : Nat → ClassId) (σ : List aC) : va_W := σ.mapIdx (fun k x => (b0 + k, acc b0 ea cA x))
theorem awd_get {b0 : Nat} {ea : Nat → Nat} {cA : Nat → ClassId} {σ : List aC} {k : Nat} {x : aC} (h : σ[k]? = some x) : (awd b0 ea cA σ)[k]? = some (b0 + k, acc b0 ea cA x) := by
  simp [awd, List.getElem?_mapIdx, h]
theorem awd_set {b0 : Nat} {ea : Nat → Nat} {cA : Nat → ClassId} {σ : List aC} (k : Nat) (x : aC) : (awd b0 ea cA σ).set k (b0 + k, acc b0 ea cA x) = awd b0 ea cA (σ.set k x) := by
  apply List.ext_getElem?
  intro i
  simp only [awd, List.getElem?_set, List.getElem?_mapIdx, List.length_mapIdx]
  by_cases h : k = i
  · subst h
    by_cases h2 : k < σ.length
    · simp [h2]
    · simp [h2]
  · simp [h]
theorem awd_push {b0 : Nat} {ea : Nat → Nat} {cA : Nat → ClassId} {σ : List aC} (x : aC) : awd b0 ea cA (σ ++ [x]) = awd b0 ea cA σ ++ [(b0 + σ.length, acc b0 ea cA x)] := by
  simp [awd, List.mapIdx_append]
theorem awd_in {b0 : Nat} {ea : Nat → Nat} {cA : Nat → ClassId} {σ : List aC} {k : Nat} {q : Nat × va_E} (h : (awd b0 ea cA σ)[k]? = some q) : q.1 = b0 + k := by
  simp only [awd, List.getElem?_mapIdx, Option.map_eq_some_iff] at h
  obtain ⟨x, -, rfl⟩ := h
  rfl
theorem awd_D {b0 : Nat} {ea : Nat → Nat} {cA : Nat → ClassId} {σ : List aC} : va_D (fun q => b0 ≤ q) (awd b0 ea cA σ) :=
  ⟨fun i j p q hi hj he => by rw [awd_in hi, awd_in hj] at he; omega, fun k q hk => by show b0 ≤ q.1; rw [awd_in hk]; exact Nat.le_add_right _ _⟩
abbrev atys (cA : Nat → ClassId) : List (ClassId × FieldType) := [(cA 0, .int), (cA 1, .long), (cA 2, .boolean), (cA 3, .byte), (cA 4, .object "AcresPaid$Season"), (cA 5, .array .int)]
def aST (a : Nat) (A : Nat → Prop) (U : State) (H : Heap) : Prop :=
  ∃ (V : State) (d : Nat) (C D : Cell), V.vm.Alike U.vm ∧ (V.heap[a]? = some C ∧ H[a]? = some C ∧ ¬ A a) ∧ (V.heap[d]? = some D ∧ H[d]? = some D ∧ ¬ A d) ∧
    (Cond.exactly (.arg 0) "java/lang/String").before #[.ref a] V = true ∧ (Term.field (.arg 0) "java/lang/String" "coder" "B").eval #[.ref a] V none [] V = some (.int 0) ∧
    (Term.field (.arg 0) "java/lang/String" "value" "[B").eval #[.ref a] V none [] V = some (.ref d) ∧ V.isArrayOf D .byte ∧ D.vm ≠ .unknown ∧ D.slots.size = 13 ∧
    (∀ j : Nat, j < 13 → D.slots[j]? = some (.int (zNS.getD j 0))) ∧ va_Z "java/lang/String" "COMPACT_STRINGS" "Z" (.int 1) A U H
theorem aST.go {a b0 : Nat} {s U : State} (h : aST a (fun q => b0 ≤ q) s s.heap) (hal : s.vm.Alike U.vm) (hq : ∀ a : Nat, a < s.heap.size → ¬ b0 ≤ a → U.heap[a]? = s.heap[a]?) : aST a (fun q => b0 ≤ q) U U.heap := by
  obtain ⟨V, d, C, D, g1, ⟨g2, g3, g4⟩, ⟨g5, g6, g7⟩, g8, g9, g10, g11, g12, g13, g14, g15⟩ := h
  exact ⟨V, d, C, D, g1.trans hal, ⟨g2, (hq _ (Array.getElem?_eq_some_iff.mp g3).1 g4).trans g3, g4⟩, ⟨g5, (hq _ (Array.getElem?_eq_some_iff.mp g6).1 g7).trans g6, g7⟩, g8, g9, g10, g11, g12, g13, g14, (g15.moved hal).kept hq⟩
def aKX (D : va_G) (cA : Nat → ClassId) (ea : Nat → Nat) (b0 : Nat) (X : aX) (U : State) : Prop :=
  va_K D zCl (atys cA) U ∧ (∀ (x n : Nat) (f : Nat → Int32), X x = some (n, f) → va_T .int (ea x) n (fun j => .int (f j)) (fun q => b0 ≤ q) U U.heap) ∧
  va_Z "AcresPaid" "ABOVE" "[I" (.ref (ea 0)) (fun q => b0 ≤ q) U U.heap ∧
  (∀ q ∈ zmcp, q.2.2.2.1 ≠ 0 → q.2.2.1 ≤ 1000 → va_Nw (.methodLinkNest (zCN q.1) q.2.1 (zyn q.2.2.1) "AcresPaid") U) ∧
  va_Nw (.fieldLinkNest "AcresPaid$Register" 49 "AcresPaid" "ABOVE" "[I" "AcresPaid") U ∧ va_AO "AcresPaid$Season" U ∧ (Cond.arrayOver (.array .int)).before #[] U = true ∧
  vk_R "AcresPaid$Texts" 114 "yksfgctlepmjb" (ea 2) U ∧ aST (ea 2) (fun q => b0 ≤ q) U U.heap
theorem aKX_go {D : va_G} {cA : Nat → ClassId} {ea : Nat → Nat} {b0 : Nat} {X : aX} {s U : State} (h : aKX D cA ea b0 X s) (hW : s.WarmedH U.vm) (hq : ∀ a : Nat, a < s.heap.size → ¬ b0 ≤ a → U.heap[a]? = s.heap[a]?) : aKX D cA ea b0 X U := by
  obtain ⟨h1, h2, h3, h4, h5, h6, h7, h8, h9⟩ := h
  exact ⟨h1.moved hW.alike, fun x n f e => ((h2 x n f e).moved hW.alike).kept hq, (h3.moved hW.alike).kept hq, fun q a b d => va_Nw.warmM hW (h4 q a b d), va_Nw.warmF hW h5, h6.moved hW.alike, over_moved hW.alike h7, h8.warm hW, h9.go hW.alike hq⟩
def alR (b0 : Nat) (ea : Nat → Nat) (ls : Array Slot) (nL : Nat) (L : aL) : Prop := L.length = nL ∧ ls.size = nL ∧ lv_wf ls ∧ ∀ (i : Nat) (v : Value), aG L i = some v → ls[i]? = some (.val (acv b0 ea v))
abbrev aGm : Type := Program × Launch × Env × Room × State × MethodId × Array Value × List Frame × Method × Code × (State → Prop) × ByteArray × Nat × Nat × Nat × Nat × Nat × Nat × va_G × (Nat → ClassId) × (Nat → Nat) × aX

def aSW (Γ : aGm) (pc : Nat) (L : aL) (st : List Value) (h : aH) : Prop := match Γ with
  | (p, l, e, R, s, m, args, below, meth, c, Q, cc, nL, b0, n0, u0, own, kind, D, cA, ea, X) => ∀ (H : Heap) (locs : List Loc) (ls : Array Slot) (cells slots : Nat), n0 + cells = h.1.length → u0 + slots = h.2 → va_P D zCl (awd b0 ea cA h.1) H → va_S (fun q => b0 ≤ q) s.heap H locs → alR b0 ea ls nL L → W p l e R s m args below meth c H locs cells slots Q (F0 m pc ls (st.map (acv b0 ea)))
def aCF (Γ : aGm) : Prop := match Γ with
  | (p, l, e, R, s, m, args, below, meth, c, Q, cc, nL, b0, n0, u0, own, kind, D, cA, ea, X) => p.tables.exec = Jvm.exec ∧ c.code = cc ∧ c.maxLocals = nL ∧ s.vm.findClass (zCN own) = some m.cls ∧ (∀ w ∈ zW, w.before args s = true) ∧ aKX D cA ea b0 X s ∧ s.heap.size = b0 + n0 ∧ (kind = 2 → meth.name = "<init>")
def aDC (Γ : aGm) (pc : Nat) (i : Instr) (n : Nat) : Prop := match Γ with
  | (p, l, e, R, s, m, args, below, meth, c, Q, cc, nL, b0, n0, u0, own, kind, D, cA, ea, X) => decode cc pc = .ok (i, n)
def aRM (Γ : aGm) (h : aH) : Prop := match Γ with
  | (p, l, e, R, s, m, args, below, meth, c, Q, cc, nL, b0, n0, u0, own, kind, D, cA, ea, X) => h.1.length ≤ n0 + R.cells ∧ h.2 ≤ u0 + R.slots
def aown (Γ : aGm) : Nat := match Γ with
  | (p, l, e, R, s, m, args, below, meth, c, Q, cc, nL, b0, n0, u0, own, kind, D, cA, ea, X) => own
def akind (Γ : aGm) : Nat := match Γ with
  | (p, l, e, R, s, m, args, below, meth, c, Q, cc, nL, b0, n0, u0, own, kind, D, cA, ea, X) => kind
def aXX (Γ : aGm) : aX := match Γ with
  | (p, l, e, R, s, m, args, below, meth, c, Q, cc, nL, b0, n0, u0, own, kind, D, cA, ea, X) => X
section AZ
variable {Γ : aGm} {pc : Nat} {L : aL} {r : List Value} {h : aH}
theorem s_null  (C : aCF Γ) (hd : aDC Γ pc .aconst_null 1) (k : aSW Γ (pc + 1) L (.null :: r) h) : aSW Γ pc L r h := by
  obtain ⟨p, l, e, R, s, m, args, below, meth, c, Q, cc, nL, b0, n0, u0, own, kind, D, cA, ea, X⟩ := Γ
  intro H locs ls cells slots e1 e2 hP hS hl
  obtain ⟨hx, hb, hml, hown, hts, hKX, hsz, hki⟩ := C
  exact lv_null hx hb hd (k H locs ls cells slots e1 e2 hP hS hl)
theorem s_iconst {z : Int} (C : aCF Γ) (hd : aDC Γ pc (.iconst z) 1) (k : aSW Γ (pc + 1) L (.int (Int32.ofInt z) :: r) h) : aSW Γ pc L r h := by
  obtain ⟨p, l, e, R, s, m, args, below, meth, c, Q, cc, nL, b0, n0, u0, own, kind, D, cA, ea, X⟩ := Γ
  intro H locs ls cells slots e1 e2 hP hS hl
  obtain ⟨hx, hb, hml, hown, hts, hKX, hsz, hki⟩ := C
  exact lv_iconst hx hb hd rfl (k H locs ls cells slots e1 e2 hP hS hl)
theorem s_bipush {z : Int} (C : aCF Γ) (hd : aDC Γ pc (.bipush z) 2) (k : aSW Γ (pc + 2) L (.int (Int8.ofInt z).toInt32 :: r) h) : aSW Γ pc L r h := by
  obtain ⟨p, l, e, R, s, m, args, below, meth, c, Q, cc, nL, b0, n0, u0, own, kind, D, cA, ea, X⟩ := Γ
  intro H locs ls cells slots e1 e2 hP hS hl
  obtain ⟨hx, hb, hml, hown, hts, hKX, hsz, hki⟩ := C
  exact lv_bipush hx hb hd rfl (k H locs ls cells slots e1 e2 hP hS hl)
theorem s_sipush {z : Int} (C : aCF Γ) (hd : aDC Γ pc (.sipush z) 3) (k : aSW Γ (pc + 3) L (.int (Int16.ofInt z).toInt32 :: r) h) : aSW Γ pc L r h := by
  obtain ⟨p, l, e, R, s, m, args, below, meth, c, Q, cc, nL, b0, n0, u0, own, kind, D, cA, ea, X⟩ := Γ
  intro H locs ls cells slots e1 e2 hP hS hl
  obtain ⟨hx, hb, hml, hown, hts, hKX, hsz, hki⟩ := C
  exact lv_sipush hx hb hd rfl (k H locs ls cells slots e1 e2 hP hS hl)
theorem s_lconst {z : Fin 2} (C : aCF Γ) (hd : aDC Γ pc (.lconst z) 1) (k : aSW Γ (pc + 1) L (.long (Int64.ofNat z) :: r) h) : aSW Γ pc L r h := by
  obtain ⟨p, l, e, R, s, m, args, below, meth, c, Q, cc, nL, b0, n0, u0, own, kind, D, cA, ea, X⟩ := Γ
  intro H locs ls cells slots e1 e2 hP hS hl
  obtain ⟨hx, hb, hml, hown, hts, hKX, hsz, hki⟩ := C
  exact lv_lconst hx hb hd rfl (k H locs ls cells slots e1 e2 hP hS hl)
theorem s_ldc {ix : Nat} {v : Int32} (hw : Cond.constant (zCN (aown Γ)) ix v ∈ zW) (C : aCF Γ) (hd : aDC Γ pc (.ldc ix) 2) (k : aSW Γ (pc + 2) L (.int v :: r) h) : aSW Γ pc L r h := by
  obtain ⟨p, l, e, R, s, m, args, below, meth, c, Q, cc, nL, b0, n0, u0, own, kind, D, cA, ea, X⟩ := Γ
  intro H locs ls cells slots e1 e2 hP hS hl
  obtain ⟨hx, hb, hml, hown, hts, hKX, hsz, hki⟩ := C
  exact lv_ldc hx hb hown (hts _ hw) hd (k H locs ls cells slots e1 e2 hP hS hl)
theorem s_ldcw {ix : Nat} {v : Int32} (hw : Cond.constant (zCN (aown Γ)) ix v ∈ zW) (C : aCF Γ) (hd : aDC Γ pc (.ldc_w ix) 3) (k : aSW Γ (pc + 3) L (.int v :: r) h) : aSW Γ pc L r h := by
  obtain ⟨p, l, e, R, s, m, args, below, meth, c, Q, cc, nL, b0, n0, u0, own, kind, D, cA, ea, X⟩ := Γ
  intro H locs ls cells slots e1 e2 hP hS hl
  obtain ⟨hx, hb, hml, hown, hts, hKX, hsz, hki⟩ := C
  exact lv_ldcw hx hb hown (hts _ hw) hd (k H locs ls cells slots e1 e2 hP hS hl)
theorem s_ldc2 {ix : Nat} {v : Int64} (hw : Cond.constantLong (zCN (aown Γ)) ix v ∈ zW) (C : aCF Γ) (hd : aDC Γ pc (.ldc2_w ix) 3) (k : aSW Γ (pc + 3) L (.long v :: r) h) : aSW Γ pc L r h := by
  obtain ⟨p, l, e, R, s, m, args, below, meth, c, Q, cc, nL, b0, n0, u0, own, kind, D, cA, ea, X⟩ := Γ
  intro H locs ls cells slots e1 e2 hP hS hl
  obtain ⟨hx, hb, hml, hown, hts, hKX, hsz, hki⟩ := C
  exact lv_ldc2 hx hb hown (hts _ hw) hd (k H locs ls cells slots e1 e2 hP hS hl)
theorem s_iloadn {z : Fin 4} {x : Int32} (hg : aG L z = some (.int x)) (C : aCF Γ) (hd : aDC Γ pc (.iload_n z) 1) (k : aSW Γ (pc + 1) L (.int x :: r) h) : aSW Γ pc L r h := by
  obtain ⟨p, l, e, R, s, m, args, below, meth, c, Q, cc, nL, b0, n0, u0, own, kind, D, cA, ea, X⟩ := Γ
  intro H locs ls cells slots e1 e2 hP hS hl
  obtain ⟨hx, hb, hml, hown, hts, hKX, hsz, hki⟩ := C
  exact lv_iload_n hx hb hd rfl (hl.2.2.2 _ _ hg) (k H locs ls cells slots e1 e2 hP hS hl)
theorem s_iload {z : Nat} {x : Int32} (hg : aG L z = some (.int x)) (C : aCF Γ) (hd : aDC Γ pc (.iload z) 2) (k : aSW Γ (pc + 2) L (.int x :: r) h) : aSW Γ pc L r h := by
  obtain ⟨p, l, e, R, s, m, args, below, meth, c, Q, cc, nL, b0, n0, u0, own, kind, D, cA, ea, X⟩ := Γ
  intro H locs ls cells slots e1 e2 hP hS hl
  obtain ⟨hx, hb, hml, hown, hts, hKX, hsz, hki⟩ := C
  exact lv_iload hx hb hd (hl.2.2.2 _ _ hg) (k H locs ls cells slots e1 e2 hP hS hl)
theorem s_lloadn {z : Fin 4} {x : Int64} (hg : aG L z = some (.long x)) (C : aCF Γ) (hd : aDC Γ pc (.lload_n z) 1) (k : aSW Γ (pc + 1) L (.long x :: r) h) : aSW Γ pc L r h := by
  obtain ⟨p, l, e, R, s, m, args, below, meth, c, Q, cc, nL, b0, n0, u0, own, kind, D, cA, ea, X⟩ := Γ
  intro H locs ls cells slots e1 e2 hP hS hl
  obtain ⟨hx, hb, hml, hown, hts, hKX, hsz, hki⟩ := C
  exact lv_lload_n hx hb hd rfl (hl.2.2.2 _ _ hg) (k H locs ls cells slots e1 e2 hP hS hl)
theorem s_lload {z : Nat} {x : Int64} (hg : aG L z = some (.long x)) (C : aCF Γ) (hd : aDC Γ pc (.lload z) 2) (k : aSW Γ (pc + 2) L (.long x :: r) h) : aSW Γ pc L r h := by
  obtain ⟨p, l, e, R, s, m, args, below, meth, c, Q, cc, nL, b0, n0, u0, own, kind, D, cA, ea, X⟩ := Γ
  intro H locs ls cells slots e1 e2 hP hS hl
  obtain ⟨hx, hb, hml, hown, hts, hKX, hsz, hki⟩ := C
  exact lv_lload hx hb hd (hl.2.2.2 _ _ hg) (k H locs ls cells slots e1 e2 hP hS hl)
theorem s_aloadn_ref {z : Fin 4} {x : Nat} (hg : aG L z = some (.ref x)) (C : aCF Γ) (hd : aDC Γ pc (.aload_n z) 1) (k : aSW Γ (pc + 1) L (.ref x :: r) h) : aSW Γ pc L r h := by
  obtain ⟨p, l, e, R, s, m, args, below, meth, c, Q, cc, nL, b0, n0, u0, own, kind, D, cA, ea, X⟩ := Γ
  intro H locs ls cells slots e1 e2 hP hS hl
  obtain ⟨hx, hb, hml, hown, hts, hKX, hsz, hki⟩ := C
  exact lv_aload_n hx hb hd rfl (hl.2.2.2 _ _ hg) (k H locs ls cells slots e1 e2 hP hS hl)
theorem s_aload_ref {z : Nat} {x : Nat} (hg : aG L z = some (.ref x)) (C : aCF Γ) (hd : aDC Γ pc (.aload z) 2) (k : aSW Γ (pc + 2) L (.ref x :: r) h) : aSW Γ pc L r h := by
  obtain ⟨p, l, e, R, s, m, args, below, meth, c, Q, cc, nL, b0, n0, u0, own, kind, D, cA, ea, X⟩ := Γ
  intro H locs ls cells slots e1 e2 hP hS hl
  obtain ⟨hx, hb, hml, hown, hts, hKX, hsz, hki⟩ := C
  exact lv_aload hx hb hd (hl.2.2.2 _ _ hg) (k H locs ls cells slots e1 e2 hP hS hl)
theorem s_aloadn_ext {z : Fin 4} {x : Nat} (hg : aG L z = some (.retAddr x)) (C : aCF Γ) (hd : aDC Γ pc (.aload_n z) 1) (k : aSW Γ (pc + 1) L (.retAddr x :: r) h) : aSW Γ pc L r h := by
  obtain ⟨p, l, e, R, s, m, args, below, meth, c, Q, cc, nL, b0, n0, u0, own, kind, D, cA, ea, X⟩ := Γ
  intro H locs ls cells slots e1 e2 hP hS hl
  obtain ⟨hx, hb, hml, hown, hts, hKX, hsz, hki⟩ := C
  exact lv_aload_n hx hb hd rfl (hl.2.2.2 _ _ hg) (k H locs ls cells slots e1 e2 hP hS hl)
theorem s_aload_ext {z : Nat} {x : Nat} (hg : aG L z = some (.retAddr x)) (C : aCF Γ) (hd : aDC Γ pc (.aload z) 2) (k : aSW Γ (pc + 2) L (.retAddr x :: r) h) : aSW Γ pc L r h := by
  obtain ⟨p, l, e, R, s, m, args, below, meth, c, Q, cc, nL, b0, n0, u0, own, kind, D, cA, ea, X⟩ := Γ
  intro H locs ls cells slots e1 e2 hP hS hl
  obtain ⟨hx, hb, hml, hown, hts, hKX, hsz, hki⟩ := C
  exact lv_aload hx hb hd (hl.2.2.2 _ _ hg) (k H locs ls cells slots e1 e2 hP hS hl)
theorem s_aloadn_nul {z : Fin 4} (hg : aG L z = some (.null)) (C : aCF Γ) (hd : aDC Γ pc (.aload_n z) 1) (k : aSW Γ (pc + 1) L (.null :: r) h) : aSW Γ pc L r h := by
  obtain ⟨p, l, e, R, s, m, args, below, meth, c, Q, cc, nL, b0, n0, u0, own, kind, D, cA, ea, X⟩ := Γ
  intro H locs ls cells slots e1 e2 hP hS hl
  obtain ⟨hx, hb, hml, hown, hts, hKX, hsz, hki⟩ := C
  exact lv_aload_nN hx hb hd rfl (hl.2.2.2 _ _ hg) (k H locs ls cells slots e1 e2 hP hS hl)
theorem s_aload_nul {z : Nat} (hg : aG L z = some (.null)) (C : aCF Γ) (hd : aDC Γ pc (.aload z) 2) (k : aSW Γ (pc + 2) L (.null :: r) h) : aSW Γ pc L r h := by
  obtain ⟨p, l, e, R, s, m, args, below, meth, c, Q, cc, nL, b0, n0, u0, own, kind, D, cA, ea, X⟩ := Γ
  intro H locs ls cells slots e1 e2 hP hS hl
  obtain ⟨hx, hb, hml, hown, hts, hKX, hsz, hki⟩ := C
  exact lv_aloadN hx hb hd (hl.2.2.2 _ _ hg) (k H locs ls cells slots e1 e2 hP hS hl)
theorem aG_lt {L : aL} {i : Nat} {v : Value} (h : aG L i = some v) : L[i]? = some (some v) := by
  unfold aG at h
  split at h
  · rename_i w hw
    cases h
    exact hw
  · cases h
theorem aG_of {L : aL} {i : Nat} {v : Value} (h : L[i]? = some (some v)) : aG L i = some v := by
  simp [aG, h]
def alst (b0 : Nat) (ea : Nat → Nat) (L : aL) : List (Nat × Value) := (List.range L.length).filterMap (fun i => (aG L i).map (fun v => (i, acv b0 ea v)))
theorem alst_mem {b0 : Nat} {ea : Nat → Nat} {L : aL} {i : Nat} {v : Value} (h : aG L i = some v) : (i, acv b0 ea v) ∈ alst b0 ea L := by
  refine List.mem_filterMap.mpr ⟨i, List.mem_range.mpr ?_, by rw [h]; rfl⟩
  exact (List.getElem?_eq_some_iff.mp (aG_lt h)).1
theorem alst_has {b0 : Nat} {ea : Nat → Nat} {ls : Array Slot} {nL : Nat} {L : aL} (h : alR b0 ea ls nL L) : lv_has ls nL (alst b0 ea L) := by
  refine ⟨h.2.1, h.2.2.1, fun q hq => ?_⟩
  obtain ⟨i, -, hi⟩ := List.mem_filterMap.mp hq
  obtain ⟨v, hv, rfl⟩ := Option.map_eq_some_iff.mp hi
  exact h.2.2.2 i v hv
theorem aclr_len {L : aL} {i : Nat} : (aclr L i).length = L.length := by
  unfold aclr
  split
  · rfl
  · split
    · exact List.length_set
    · exact List.length_set
    · rfl
theorem acv_cat {b0 : Nat} {ea : Nat → Nat} (v : Value) : (acv b0 ea v).category = v.category := by cases v <;> rfl
theorem aclr_get {L : aL} {i j : Nat} {v : Value} (h : (aclr L i)[j]? = some (some v)) : L[j]? = some (some v) ∧ ¬ (j + 1 = i ∧ v.category = 2) := by
  unfold aclr at h
  split at h
  · exact ⟨h, fun q => absurd q.1 (by omega)⟩
  · rename_i k
    have hs : ∀ (h : (L.set k none)[j]? = some (some v)), L[j]? = some (some v) ∧ ¬ (j + 1 = k + 1 ∧ v.category = 2) := by
      intro h
      rw [List.getElem?_set] at h
      by_cases e : k = j
      · subst e
        rw [if_pos rfl] at h
        split at h
        · cases h
        · cases h
      · rw [if_neg e] at h
        exact ⟨h, fun q => e (by omega)⟩
    split at h
    · exact hs h
    · exact hs h
    · rename_i hn1 hn2
      refine ⟨h, fun q => ?_⟩
      obtain ⟨q1, q2⟩ := q
      have : j = k := by omega
      subst this
      cases v with
      | long x => exact hn1 x h
      | double x => exact hn2 x h
      | _ => simp [Value.category] at q2
theorem alR_S1 {b0 : Nat} {ea : Nat → Nat} {ls ls' : Array Slot} {nL i : Nat} {L : aL} {v : Value} (h : alR b0 ea ls nL L) (hi : i < L.length) (hc : v.category = 1)
    (h' : lv_has ls' nL ((i, acv b0 ea v) :: (alst b0 ea L).filter (fun q => !(q.1 == i) && !(q.1 + 1 == i && q.2.category == 2)))) : alR b0 ea ls' nL (aS1 L i v) := by
  refine ⟨by rw [aS1, List.length_set, aclr_len]; exact h.1, h'.1, h'.2.1, fun j w hw => ?_⟩
  have hw := aG_lt hw
  rw [aS1, List.getElem?_set] at hw
  by_cases e : i = j
  · subst e
    rw [if_pos rfl] at hw
    split at hw
    · cases hw
      exact h'.2.2 _ List.mem_cons_self
    · cases hw
  · rw [if_neg e] at hw
    obtain ⟨g1, g2⟩ := aclr_get hw
    refine h'.2.2 (j, acv b0 ea w) (List.mem_cons_of_mem _ (List.mem_filter.mpr ⟨alst_mem (aG_of g1), ?_⟩))
    simp only [acv_cat]
    have e1 : (j == i) = false := by simp; omega
    rw [e1]
    by_cases e2 : j + 1 = i
    · have : ¬ w.category = 2 := fun q => g2 ⟨e2, q⟩
      simp [this]
    · simp [e2]
theorem alR_S2 {b0 : Nat} {ea : Nat → Nat} {ls ls' : Array Slot} {nL i : Nat} {L : aL} {v : Value} (h : alR b0 ea ls nL L) (hi : i + 1 < L.length)
    (h' : lv_has ls' nL ((i, acv b0 ea v) :: (alst b0 ea L).filter (fun q => !(q.1 == i) && (!(q.1 == i + 1) && !(q.1 + 1 == i && q.2.category == 2))))) : alR b0 ea ls' nL (aS2 L i v) := by
  refine ⟨by rw [aS2, List.length_set, List.length_set, aclr_len]; exact h.1, h'.1, h'.2.1, fun j w hw => ?_⟩
  have hw := aG_lt hw
  rw [aS2, List.getElem?_set] at hw
  by_cases e0 : i + 1 = j
  · rw [if_pos e0] at hw
    split at hw
    · cases hw
    · cases hw
  rw [if_neg e0, List.getElem?_set] at hw
  by_cases e : i = j
  · subst e
    rw [if_pos rfl] at hw
    split at hw
    · cases hw
      exact h'.2.2 _ List.mem_cons_self
    · cases hw
  · rw [if_neg e] at hw
    obtain ⟨g1, g2⟩ := aclr_get hw
    refine h'.2.2 (j, acv b0 ea w) (List.mem_cons_of_mem _ (List.mem_filter.mpr ⟨alst_mem (aG_of g1), ?_⟩))
    simp only [acv_cat]
    have e1 : (j == i) = false := by simp; omega
    have e3 : (j == i + 1) = false := by simp; omega
    rw [e1, e3]
    by_cases e2 : j + 1 = i
    · have : ¬ w.category = 2 := fun q => g2 ⟨e2, q⟩
      simp [this]
    · simp [e2]
theorem s_istoren {z : Fin 4} {x : Int32} (hz : (z : Nat) < L.length) (C : aCF Γ) (hd : aDC Γ pc (.istore_n z) 1) (k : aSW Γ (pc + 1) (aS1 L z (.int x)) r h) : aSW Γ pc L (.int x :: r) h := by
  obtain ⟨p, l, e, R, s, m, args, below, meth, c, Q, cc, nL, b0, n0, u0, own, kind, D, cA, ea, X⟩ := Γ
  intro H locs ls cells slots e1 e2 hP hS hl
  obtain ⟨hx, hb, hml, hown, hts, hKX, hsz, hki⟩ := C
  exact lv_istore_n hx hb hd rfl (alst_has hl) (by rw [← hl.1]; exact hz) rfl (fun ls' hl' => k H locs ls' cells slots e1 e2 hP hS (alR_S1 (v := .int x) hl hz rfl hl'))
theorem s_astoren {z : Fin 4} {x : Nat} (hz : (z : Nat) < L.length) (C : aCF Γ) (hd : aDC Γ pc (.astore_n z) 1) (k : aSW Γ (pc + 1) (aS1 L z (.ref x)) r h) : aSW Γ pc L (.ref x :: r) h := by
  obtain ⟨p, l, e, R, s, m, args, below, meth, c, Q, cc, nL, b0, n0, u0, own, kind, D, cA, ea, X⟩ := Γ
  intro H locs ls cells slots e1 e2 hP hS hl
  obtain ⟨hx, hb, hml, hown, hts, hKX, hsz, hki⟩ := C
  exact lv_astore_n hx hb hd rfl (alst_has hl) (by rw [← hl.1]; exact hz) rfl (fun ls' hl' => k H locs ls' cells slots e1 e2 hP hS (alR_S1 (v := .ref x) hl hz rfl hl'))
theorem s_astoreNn {z : Fin 4} (hz : (z : Nat) < L.length) (C : aCF Γ) (hd : aDC Γ pc (.astore_n z) 1) (k : aSW Γ (pc + 1) (aS1 L z .null) r h) : aSW Γ pc L (.null :: r) h := by
  obtain ⟨p, l, e, R, s, m, args, below, meth, c, Q, cc, nL, b0, n0, u0, own, kind, D, cA, ea, X⟩ := Γ
  intro H locs ls cells slots e1 e2 hP hS hl
  obtain ⟨hx, hb, hml, hown, hts, hKX, hsz, hki⟩ := C
  exact lv_astore_nN hx hb hd rfl (alst_has hl) (by rw [← hl.1]; exact hz) rfl (fun ls' hl' => k H locs ls' cells slots e1 e2 hP hS (alR_S1 (v := .null) hl hz rfl hl'))
theorem s_lstoren {z : Fin 4} {x : Int64} (hz : (z : Nat) + 1 < L.length) (C : aCF Γ) (hd : aDC Γ pc (.lstore_n z) 1) (k : aSW Γ (pc + 1) (aS2 L z (.long x)) r h) : aSW Γ pc L (.long x :: r) h := by
  obtain ⟨p, l, e, R, s, m, args, below, meth, c, Q, cc, nL, b0, n0, u0, own, kind, D, cA, ea, X⟩ := Γ
  intro H locs ls cells slots e1 e2 hP hS hl
  obtain ⟨hx, hb, hml, hown, hts, hKX, hsz, hki⟩ := C
  exact lv_lstore_n hx hb hd rfl (alst_has hl) (by rw [← hl.1]; exact hz) rfl (fun ls' hl' => k H locs ls' cells slots e1 e2 hP hS (alR_S2 (v := .long x) hl hz hl'))
theorem s_istore {z : Nat} {x : Int32} (hz : (z : Nat) < L.length) (C : aCF Γ) (hd : aDC Γ pc (.istore z) 2) (k : aSW Γ (pc + 2) (aS1 L z (.int x)) r h) : aSW Γ pc L (.int x :: r) h := by
  obtain ⟨p, l, e, R, s, m, args, below, meth, c, Q, cc, nL, b0, n0, u0, own, kind, D, cA, ea, X⟩ := Γ
  intro H locs ls cells slots e1 e2 hP hS hl
  obtain ⟨hx, hb, hml, hown, hts, hKX, hsz, hki⟩ := C
  exact lv_istore hx hb hd (alst_has hl) (by rw [← hl.1]; exact hz) rfl (fun ls' hl' => k H locs ls' cells slots e1 e2 hP hS (alR_S1 (v := .int x) hl hz rfl hl'))
theorem s_astore {z : Nat} {x : Nat} (hz : (z : Nat) < L.length) (C : aCF Γ) (hd : aDC Γ pc (.astore z) 2) (k : aSW Γ (pc + 2) (aS1 L z (.ref x)) r h) : aSW Γ pc L (.ref x :: r) h := by
  obtain ⟨p, l, e, R, s, m, args, below, meth, c, Q, cc, nL, b0, n0, u0, own, kind, D, cA, ea, X⟩ := Γ
  intro H locs ls cells slots e1 e2 hP hS hl
  obtain ⟨hx, hb, hml, hown, hts, hKX, hsz, hki⟩ := C
  exact lv_astore hx hb hd (alst_has hl) (by rw [← hl.1]; exact hz) rfl (fun ls' hl' => k H locs ls' cells slots e1 e2 hP hS (alR_S1 (v := .ref x) hl hz rfl hl'))
theorem s_astoreN {z : Nat} (hz : (z : Nat) < L.length) (C : aCF Γ) (hd : aDC Γ pc (.astore z) 2) (k : aSW Γ (pc + 2) (aS1 L z .null) r h) : aSW Γ pc L (.null :: r) h := by
  obtain ⟨p, l, e, R, s, m, args, below, meth, c, Q, cc, nL, b0, n0, u0, own, kind, D, cA, ea, X⟩ := Γ
  intro H locs ls cells slots e1 e2 hP hS hl
  obtain ⟨hx, hb, hml, hown, hts, hKX, hsz, hki⟩ := C
  exact lv_astoreN hx hb hd (alst_has hl) (by rw [← hl.1]; exact hz) rfl (fun ls' hl' => k H locs ls' cells slots e1 e2 hP hS (alR_S1 (v := .null) hl hz rfl hl'))
theorem s_lstore {z : Nat} {x : Int64} (hz : (z : Nat) + 1 < L.length) (C : aCF Γ) (hd : aDC Γ pc (.lstore z) 2) (k : aSW Γ (pc + 2) (aS2 L z (.long x)) r h) : aSW Γ pc L (.long x :: r) h := by
  obtain ⟨p, l, e, R, s, m, args, below, meth, c, Q, cc, nL, b0, n0, u0, own, kind, D, cA, ea, X⟩ := Γ
  intro H locs ls cells slots e1 e2 hP hS hl
  obtain ⟨hx, hb, hml, hown, hts, hKX, hsz, hki⟩ := C
  exact lv_lstore hx hb hd (alst_has hl) (by rw [← hl.1]; exact hz) rfl (fun ls' hl' => k H locs ls' cells slots e1 e2 hP hS (alR_S2 (v := .long x) hl hz hl'))
theorem s_iinc {z : Nat} {n : Int} {x : Int32} (hg : aG L z = some (.int x)) (C : aCF Γ) (hd : aDC Γ pc (.iinc z n) 3) (k : aSW Γ (pc + 3) (aS1 L z (.int (x + Int32.ofInt n))) r h) : aSW Γ pc L r h := by
  obtain ⟨p, l, e, R, s, m, args, below, meth, c, Q, cc, nL, b0, n0, u0, own, kind, D, cA, ea, X⟩ := Γ
  intro H locs ls cells slots e1 e2 hP hS hl
  obtain ⟨hx, hb, hml, hown, hts, hKX, hsz, hki⟩ := C
  have hz : z < L.length := (List.getElem?_eq_some_iff.mp (aG_lt hg)).1
  obtain ⟨j, hj⟩ := List.getElem?_of_mem (alst_mem (b0 := b0) (ea := ea) hg)
  exact lv_iinc (x := x) (v := x + Int32.ofInt n) hx hb hd (alst_has hl) (k := j) hj rfl (by rw [← hl.1]; exact hz) rfl (fun ls' hl' => k H locs ls' cells slots e1 e2 hP hS (alR_S1 (v := .int (x + Int32.ofInt n)) hl hz rfl hl'))
theorem s_iadd {x : Int32} {y : Int32}  (C : aCF Γ) (hd : aDC Γ pc .iadd 1) (k : aSW Γ (pc + 1) L (.int (x + y) :: r) h) : aSW Γ pc L (.int y :: .int x :: r) h := by
  obtain ⟨p, l, e, R, s, m, args, below, meth, c, Q, cc, nL, b0, n0, u0, own, kind, D, cA, ea, X⟩ := Γ
  intro H locs ls cells slots e1 e2 hP hS hl
  obtain ⟨hx, hb, hml, hown, hts, hKX, hsz, hki⟩ := C
  exact lv_iadd hx hb hd (k H locs ls cells slots e1 e2 hP hS hl)
theorem s_isub {x : Int32} {y : Int32}  (C : aCF Γ) (hd : aDC Γ pc .isub 1) (k : aSW Γ (pc + 1) L (.int (x - y) :: r) h) : aSW Γ pc L (.int y :: .int x :: r) h := by
  obtain ⟨p, l, e, R, s, m, args, below, meth, c, Q, cc, nL, b0, n0, u0, own, kind, D, cA, ea, X⟩ := Γ
  intro H locs ls cells slots e1 e2 hP hS hl
  obtain ⟨hx, hb, hml, hown, hts, hKX, hsz, hki⟩ := C
  exact lv_isub hx hb hd (k H locs ls cells slots e1 e2 hP hS hl)
theorem s_imul {x : Int32} {y : Int32}  (C : aCF Γ) (hd : aDC Γ pc .imul 1) (k : aSW Γ (pc + 1) L (.int (x * y) :: r) h) : aSW Γ pc L (.int y :: .int x :: r) h := by
  obtain ⟨p, l, e, R, s, m, args, below, meth, c, Q, cc, nL, b0, n0, u0, own, kind, D, cA, ea, X⟩ := Γ
  intro H locs ls cells slots e1 e2 hP hS hl
  obtain ⟨hx, hb, hml, hown, hts, hKX, hsz, hki⟩ := C
  exact lv_imul hx hb hd (k H locs ls cells slots e1 e2 hP hS hl)
theorem s_iand {x : Int32} {y : Int32}  (C : aCF Γ) (hd : aDC Γ pc .iand 1) (k : aSW Γ (pc + 1) L (.int (x &&& y) :: r) h) : aSW Γ pc L (.int y :: .int x :: r) h := by
  obtain ⟨p, l, e, R, s, m, args, below, meth, c, Q, cc, nL, b0, n0, u0, own, kind, D, cA, ea, X⟩ := Γ
  intro H locs ls cells slots e1 e2 hP hS hl
  obtain ⟨hx, hb, hml, hown, hts, hKX, hsz, hki⟩ := C
  exact lv_iand hx hb hd (k H locs ls cells slots e1 e2 hP hS hl)
theorem s_ior {x : Int32} {y : Int32}  (C : aCF Γ) (hd : aDC Γ pc .ior 1) (k : aSW Γ (pc + 1) L (.int (x ||| y) :: r) h) : aSW Γ pc L (.int y :: .int x :: r) h := by
  obtain ⟨p, l, e, R, s, m, args, below, meth, c, Q, cc, nL, b0, n0, u0, own, kind, D, cA, ea, X⟩ := Γ
  intro H locs ls cells slots e1 e2 hP hS hl
  obtain ⟨hx, hb, hml, hown, hts, hKX, hsz, hki⟩ := C
  exact lv_ior hx hb hd (k H locs ls cells slots e1 e2 hP hS hl)
theorem s_ixor {x : Int32} {y : Int32}  (C : aCF Γ) (hd : aDC Γ pc .ixor 1) (k : aSW Γ (pc + 1) L (.int (x ^^^ y) :: r) h) : aSW Γ pc L (.int y :: .int x :: r) h := by
  obtain ⟨p, l, e, R, s, m, args, below, meth, c, Q, cc, nL, b0, n0, u0, own, kind, D, cA, ea, X⟩ := Γ
  intro H locs ls cells slots e1 e2 hP hS hl
  obtain ⟨hx, hb, hml, hown, hts, hKX, hsz, hki⟩ := C
  exact lv_ixor hx hb hd (k H locs ls cells slots e1 e2 hP hS hl)
theorem s_ishl {x : Int32} {y : Int32}  (C : aCF Γ) (hd : aDC Γ pc .ishl 1) (k : aSW Γ (pc + 1) L (.int (x <<< (y &&& 31)) :: r) h) : aSW Γ pc L (.int y :: .int x :: r) h := by
  obtain ⟨p, l, e, R, s, m, args, below, meth, c, Q, cc, nL, b0, n0, u0, own, kind, D, cA, ea, X⟩ := Γ
  intro H locs ls cells slots e1 e2 hP hS hl
  obtain ⟨hx, hb, hml, hown, hts, hKX, hsz, hki⟩ := C
  exact lv_ishl hx hb hd (k H locs ls cells slots e1 e2 hP hS hl)
theorem s_ishr {x : Int32} {y : Int32}  (C : aCF Γ) (hd : aDC Γ pc .ishr 1) (k : aSW Γ (pc + 1) L (.int (x >>> (y &&& 31)) :: r) h) : aSW Γ pc L (.int y :: .int x :: r) h := by
  obtain ⟨p, l, e, R, s, m, args, below, meth, c, Q, cc, nL, b0, n0, u0, own, kind, D, cA, ea, X⟩ := Γ
  intro H locs ls cells slots e1 e2 hP hS hl
  obtain ⟨hx, hb, hml, hown, hts, hKX, hsz, hki⟩ := C
  exact lv_ishr hx hb hd (k H locs ls cells slots e1 e2 hP hS hl)
theorem s_iushr {x : Int32} {y : Int32}  (C : aCF Γ) (hd : aDC Γ pc .iushr 1) (k : aSW Γ (pc + 1) L (.int ((x.toUInt32 >>> (y.toUInt32 &&& Int32.toUInt32 31)).toInt32) :: r) h) : aSW Γ pc L (.int y :: .int x :: r) h := by
  obtain ⟨p, l, e, R, s, m, args, below, meth, c, Q, cc, nL, b0, n0, u0, own, kind, D, cA, ea, X⟩ := Γ
  intro H locs ls cells slots e1 e2 hP hS hl
  obtain ⟨hx, hb, hml, hown, hts, hKX, hsz, hki⟩ := C
  exact lv_iushr hx hb hd rfl (k H locs ls cells slots e1 e2 hP hS hl)
theorem s_idiv {x : Int32} {y : Int32} (hne : ¬ y = 0)  (C : aCF Γ) (hd : aDC Γ pc .idiv 1) (k : aSW Γ (pc + 1) L (.int (x / y) :: r) h) : aSW Γ pc L (.int y :: .int x :: r) h := by
  obtain ⟨p, l, e, R, s, m, args, below, meth, c, Q, cc, nL, b0, n0, u0, own, kind, D, cA, ea, X⟩ := Γ
  intro H locs ls cells slots e1 e2 hP hS hl
  obtain ⟨hx, hb, hml, hown, hts, hKX, hsz, hki⟩ := C
  exact lv_idiv hx hb hd hne (k H locs ls cells slots e1 e2 hP hS hl)
theorem s_irem {x : Int32} {y : Int32} (hne : ¬ y = 0)  (C : aCF Γ) (hd : aDC Γ pc .irem 1) (k : aSW Γ (pc + 1) L (.int (x - x / y * y) :: r) h) : aSW Γ pc L (.int y :: .int x :: r) h := by
  obtain ⟨p, l, e, R, s, m, args, below, meth, c, Q, cc, nL, b0, n0, u0, own, kind, D, cA, ea, X⟩ := Γ
  intro H locs ls cells slots e1 e2 hP hS hl
  obtain ⟨hx, hb, hml, hown, hts, hKX, hsz, hki⟩ := C
  exact lv_irem hx hb hd hne (k H locs ls cells slots e1 e2 hP hS hl)
theorem s_ladd {x : Int64} {y : Int64}  (C : aCF Γ) (hd : aDC Γ pc .ladd 1) (k : aSW Γ (pc + 1) L (.long (x + y) :: r) h) : aSW Γ pc L (.long y :: .long x :: r) h := by
  obtain ⟨p, l, e, R, s, m, args, below, meth, c, Q, cc, nL, b0, n0, u0, own, kind, D, cA, ea, X⟩ := Γ
  intro H locs ls cells slots e1 e2 hP hS hl
  obtain ⟨hx, hb, hml, hown, hts, hKX, hsz, hki⟩ := C
  exact lv_ladd hx hb hd (k H locs ls cells slots e1 e2 hP hS hl)
theorem s_lsub {x : Int64} {y : Int64}  (C : aCF Γ) (hd : aDC Γ pc .lsub 1) (k : aSW Γ (pc + 1) L (.long (x - y) :: r) h) : aSW Γ pc L (.long y :: .long x :: r) h := by
  obtain ⟨p, l, e, R, s, m, args, below, meth, c, Q, cc, nL, b0, n0, u0, own, kind, D, cA, ea, X⟩ := Γ
  intro H locs ls cells slots e1 e2 hP hS hl
  obtain ⟨hx, hb, hml, hown, hts, hKX, hsz, hki⟩ := C
  exact lv_lsub hx hb hd (k H locs ls cells slots e1 e2 hP hS hl)
theorem s_lmul {x : Int64} {y : Int64}  (C : aCF Γ) (hd : aDC Γ pc .lmul 1) (k : aSW Γ (pc + 1) L (.long (x * y) :: r) h) : aSW Γ pc L (.long y :: .long x :: r) h := by
  obtain ⟨p, l, e, R, s, m, args, below, meth, c, Q, cc, nL, b0, n0, u0, own, kind, D, cA, ea, X⟩ := Γ
  intro H locs ls cells slots e1 e2 hP hS hl
  obtain ⟨hx, hb, hml, hown, hts, hKX, hsz, hki⟩ := C
  exact lv_lmul hx hb hd (k H locs ls cells slots e1 e2 hP hS hl)
theorem s_land {x : Int64} {y : Int64}  (C : aCF Γ) (hd : aDC Γ pc .land 1) (k : aSW Γ (pc + 1) L (.long (x &&& y) :: r) h) : aSW Γ pc L (.long y :: .long x :: r) h := by
  obtain ⟨p, l, e, R, s, m, args, below, meth, c, Q, cc, nL, b0, n0, u0, own, kind, D, cA, ea, X⟩ := Γ
  intro H locs ls cells slots e1 e2 hP hS hl
  obtain ⟨hx, hb, hml, hown, hts, hKX, hsz, hki⟩ := C
  exact lv_land hx hb hd (k H locs ls cells slots e1 e2 hP hS hl)
theorem s_lor {x : Int64} {y : Int64}  (C : aCF Γ) (hd : aDC Γ pc .lor 1) (k : aSW Γ (pc + 1) L (.long (x ||| y) :: r) h) : aSW Γ pc L (.long y :: .long x :: r) h := by
  obtain ⟨p, l, e, R, s, m, args, below, meth, c, Q, cc, nL, b0, n0, u0, own, kind, D, cA, ea, X⟩ := Γ
  intro H locs ls cells slots e1 e2 hP hS hl
  obtain ⟨hx, hb, hml, hown, hts, hKX, hsz, hki⟩ := C
  exact lv_lor hx hb hd (k H locs ls cells slots e1 e2 hP hS hl)
theorem s_ldiv {x : Int64} {y : Int64} (hne : ¬ y = 0)  (C : aCF Γ) (hd : aDC Γ pc .ldiv 1) (k : aSW Γ (pc + 1) L (.long (x / y) :: r) h) : aSW Γ pc L (.long y :: .long x :: r) h := by
  obtain ⟨p, l, e, R, s, m, args, below, meth, c, Q, cc, nL, b0, n0, u0, own, kind, D, cA, ea, X⟩ := Γ
  intro H locs ls cells slots e1 e2 hP hS hl
  obtain ⟨hx, hb, hml, hown, hts, hKX, hsz, hki⟩ := C
  exact lv_ldiv hx hb hd hne (k H locs ls cells slots e1 e2 hP hS hl)
theorem s_lrem {x : Int64} {y : Int64} (hne : ¬ y = 0)  (C : aCF Γ) (hd : aDC Γ pc .lrem 1) (k : aSW Γ (pc + 1) L (.long (x - x / y * y) :: r) h) : aSW Γ pc L (.long y :: .long x :: r) h := by
  obtain ⟨p, l, e, R, s, m, args, below, meth, c, Q, cc, nL, b0, n0, u0, own, kind, D, cA, ea, X⟩ := Γ
  intro H locs ls cells slots e1 e2 hP hS hl
  obtain ⟨hx, hb, hml, hown, hts, hKX, hsz, hki⟩ := C
  exact lv_lrem hx hb hd hne (k H locs ls cells slots e1 e2 hP hS hl)
theorem s_lshl {x : Int64} {y : Int32}  (C : aCF Γ) (hd : aDC Γ pc .lshl 1) (k : aSW Γ (pc + 1) L (.long (x <<< (y.toInt64 &&& 63)) :: r) h) : aSW Γ pc L (.int y :: .long x :: r) h := by
  obtain ⟨p, l, e, R, s, m, args, below, meth, c, Q, cc, nL, b0, n0, u0, own, kind, D, cA, ea, X⟩ := Γ
  intro H locs ls cells slots e1 e2 hP hS hl
  obtain ⟨hx, hb, hml, hown, hts, hKX, hsz, hki⟩ := C
  exact lv_lshl hx hb hd rfl (k H locs ls cells slots e1 e2 hP hS hl)
theorem s_lcmp {x : Int64} {y : Int64}  (C : aCF Γ) (hd : aDC Γ pc .lcmp 1) (k : aSW Γ (pc + 1) L (.int (lg_cmp x y) :: r) h) : aSW Γ pc L (.long y :: .long x :: r) h := by
  obtain ⟨p, l, e, R, s, m, args, below, meth, c, Q, cc, nL, b0, n0, u0, own, kind, D, cA, ea, X⟩ := Γ
  intro H locs ls cells slots e1 e2 hP hS hl
  obtain ⟨hx, hb, hml, hown, hts, hKX, hsz, hki⟩ := C
  exact W.lcmp hx hb hd (k H locs ls cells slots e1 e2 hP hS hl)
theorem s_ineg {x : Int32} (C : aCF Γ) (hd : aDC Γ pc .ineg 1) (k : aSW Γ (pc + 1) L (.int (-x) :: r) h) : aSW Γ pc L (.int x :: r) h := by
  obtain ⟨p, l, e, R, s, m, args, below, meth, c, Q, cc, nL, b0, n0, u0, own, kind, D, cA, ea, X⟩ := Γ
  intro H locs ls cells slots e1 e2 hP hS hl
  obtain ⟨hx, hb, hml, hown, hts, hKX, hsz, hki⟩ := C
  exact lv_ineg hx hb hd (k H locs ls cells slots e1 e2 hP hS hl)
theorem s_i2l {x : Int32} (C : aCF Γ) (hd : aDC Γ pc .i2l 1) (k : aSW Γ (pc + 1) L (.long (x.toInt64) :: r) h) : aSW Γ pc L (.int x :: r) h := by
  obtain ⟨p, l, e, R, s, m, args, below, meth, c, Q, cc, nL, b0, n0, u0, own, kind, D, cA, ea, X⟩ := Γ
  intro H locs ls cells slots e1 e2 hP hS hl
  obtain ⟨hx, hb, hml, hown, hts, hKX, hsz, hki⟩ := C
  exact lv_i2l hx hb hd rfl (k H locs ls cells slots e1 e2 hP hS hl)
theorem s_l2i {x : Int64} (C : aCF Γ) (hd : aDC Γ pc .l2i 1) (k : aSW Γ (pc + 1) L (.int (x.toInt32) :: r) h) : aSW Γ pc L (.long x :: r) h := by
  obtain ⟨p, l, e, R, s, m, args, below, meth, c, Q, cc, nL, b0, n0, u0, own, kind, D, cA, ea, X⟩ := Γ
  intro H locs ls cells slots e1 e2 hP hS hl
  obtain ⟨hx, hb, hml, hown, hts, hKX, hsz, hki⟩ := C
  exact lv_l2i hx hb hd rfl (k H locs ls cells slots e1 e2 hP hS hl)
theorem s_i2b {x : Int32} (C : aCF Γ) (hd : aDC Γ pc .i2b 1) (k : aSW Γ (pc + 1) L (.int (x.toInt8.toInt32) :: r) h) : aSW Γ pc L (.int x :: r) h := by
  obtain ⟨p, l, e, R, s, m, args, below, meth, c, Q, cc, nL, b0, n0, u0, own, kind, D, cA, ea, X⟩ := Γ
  intro H locs ls cells slots e1 e2 hP hS hl
  obtain ⟨hx, hb, hml, hown, hts, hKX, hsz, hki⟩ := C
  exact lv_i2b hx hb hd rfl (k H locs ls cells slots e1 e2 hP hS hl)
theorem s_i2c {x : Int32} (C : aCF Γ) (hd : aDC Γ pc .i2c 1) (k : aSW Γ (pc + 1) L (.int ((x.toUInt32 % 65536).toInt32) :: r) h) : aSW Γ pc L (.int x :: r) h := by
  obtain ⟨p, l, e, R, s, m, args, below, meth, c, Q, cc, nL, b0, n0, u0, own, kind, D, cA, ea, X⟩ := Γ
  intro H locs ls cells slots e1 e2 hP hS hl
  obtain ⟨hx, hb, hml, hown, hts, hKX, hsz, hki⟩ := C
  exact lv_i2c hx hb hd rfl (k H locs ls cells slots e1 e2 hP hS hl)
theorem s_ldcS (hw : aown Γ = 10) (C : aCF Γ) (hd : aDC Γ pc (.ldc 114) 2) (k : aSW Γ (pc + 2) L (.retAddr 2 :: r) h) : aSW Γ pc L r h := by
  obtain ⟨p, l, e, R, s, m, args, below, meth, c, Q, cc, nL, b0, n0, u0, own, kind, D, cA, ea, X⟩ := Γ
  intro H locs ls cells slots e1 e2 hP hS hl
  obtain ⟨hx, hb, hml, hown, hts, hKX, hsz, hki⟩ := C
  have hw : own = 10 := hw
  subst hw
  exact va_ldcS hx hb hown hKX.2.2.2.2.2.2.2.1 hd (k H locs ls cells slots e1 e2 hP hS hl)
theorem s_i2s {x : Int32} (C : aCF Γ) (hd : aDC Γ pc .i2s 1) (k : aSW Γ (pc + 1) L (.int (x.toInt16.toInt32) :: r) h) : aSW Γ pc L (.int x :: r) h := by
  obtain ⟨p, l, e, R, s, m, args, below, meth, c, Q, cc, nL, b0, n0, u0, own, kind, D, cA, ea, X⟩ := Γ
  intro H locs ls cells slots e1 e2 hP hS hl
  obtain ⟨hx, hb, hml, hown, hts, hKX, hsz, hki⟩ := C
  exact lv_i2s hx hb hd rfl (k H locs ls cells slots e1 e2 hP hS hl)
theorem aok1_cat {b0 : Nat} {ea : Nat → Nat} {v : Value} (h : aok1 v = true) : (acv b0 ea v).category = 1 := by
  cases v <;> first | rfl | cases h
theorem s_dup {v : Value} (hv : aok1 v = true) (C : aCF Γ) (hd : aDC Γ pc .dup 1) (k : aSW Γ (pc + 1) L (v :: v :: r) h) : aSW Γ pc L (v :: r) h := by
  obtain ⟨p, l, e, R, s, m, args, below, meth, c, Q, cc, nL, b0, n0, u0, own, kind, D, cA, ea, X⟩ := Γ
  intro H locs ls cells slots e1 e2 hP hS hl
  obtain ⟨hx, hb, hml, hown, hts, hKX, hsz, hki⟩ := C
  exact lv_dup hx hb hd (aok1_cat hv) (k H locs ls cells slots e1 e2 hP hS hl)
theorem s_pop {v : Value} (hv : aok1 v = true) (C : aCF Γ) (hd : aDC Γ pc .pop 1) (k : aSW Γ (pc + 1) L r h) : aSW Γ pc L (v :: r) h := by
  obtain ⟨p, l, e, R, s, m, args, below, meth, c, Q, cc, nL, b0, n0, u0, own, kind, D, cA, ea, X⟩ := Γ
  intro H locs ls cells slots e1 e2 hP hS hl
  obtain ⟨hx, hb, hml, hown, hts, hKX, hsz, hki⟩ := C
  exact lv_pop hx hb hd (aok1_cat hv) (k H locs ls cells slots e1 e2 hP hS hl)
theorem s_pop2 {x : Int64} (C : aCF Γ) (hd : aDC Γ pc .pop2 1) (k : aSW Γ (pc + 1) L r h) : aSW Γ pc L (.long x :: r) h := by
  obtain ⟨p, l, e, R, s, m, args, below, meth, c, Q, cc, nL, b0, n0, u0, own, kind, D, cA, ea, X⟩ := Γ
  intro H locs ls cells slots e1 e2 hP hS hl
  obtain ⟨hx, hb, hml, hown, hts, hKX, hsz, hki⟩ := C
  exact lv_pop2_2 hx hb hd rfl (k H locs ls cells slots e1 e2 hP hS hl)
theorem s_dup2 {v w : Value} (hv : aok1 v = true) (hw : aok1 w = true) (C : aCF Γ) (hd : aDC Γ pc .dup2 1) (k : aSW Γ (pc + 1) L (v :: w :: v :: w :: r) h) : aSW Γ pc L (v :: w :: r) h := by
  obtain ⟨p, l, e, R, s, m, args, below, meth, c, Q, cc, nL, b0, n0, u0, own, kind, D, cA, ea, X⟩ := Γ
  intro H locs ls cells slots e1 e2 hP hS hl
  obtain ⟨hx, hb, hml, hown, hts, hKX, hsz, hki⟩ := C
  exact lv_dup2_11 hx hb hd (aok1_cat hv) (aok1_cat hw) (k H locs ls cells slots e1 e2 hP hS hl)
theorem s_dup_x1 {v w : Value} (hv : aok1 v = true) (hw : aok1 w = true) (C : aCF Γ) (hd : aDC Γ pc .dup_x1 1) (k : aSW Γ (pc + 1) L (v :: w :: v :: r) h) : aSW Γ pc L (v :: w :: r) h := by
  obtain ⟨p, l, e, R, s, m, args, below, meth, c, Q, cc, nL, b0, n0, u0, own, kind, D, cA, ea, X⟩ := Γ
  intro H locs ls cells slots e1 e2 hP hS hl
  obtain ⟨hx, hb, hml, hown, hts, hKX, hsz, hki⟩ := C
  exact lv_dup_x1 hx hb hd (aok1_cat hv) (aok1_cat hw) (k H locs ls cells slots e1 e2 hP hS hl)
theorem s_goto {off : Int} {t : Nat} (ht : (pc : Int) + off = (t : Int)) (C : aCF Γ) (hd : aDC Γ pc (.goto off) 3) (k : aSW Γ t L r h) : aSW Γ pc L r h := by
  obtain ⟨p, l, e, R, s, m, args, below, meth, c, Q, cc, nL, b0, n0, u0, own, kind, D, cA, ea, X⟩ := Γ
  intro H locs ls cells slots e1 e2 hP hS hl
  obtain ⟨hx, hb, hml, hown, hts, hKX, hsz, hki⟩ := C
  exact lv_goto hx hb hd ht (k H locs ls cells slots e1 e2 hP hS hl)
theorem s_if_eq {x : Int32} {off : Int} {t : Nat} (ht : (pc : Int) + off = (t : Int)) (C : aCF Γ) (hd : aDC Γ pc (.ifCond .eq off) 3) (k1 : x = 0 → aSW Γ t L r h) (k2 : ¬ x = 0 → aSW Γ (pc + 3) L r h) : aSW Γ pc L (.int x :: r) h := by
  obtain ⟨p, l, e, R, s, m, args, below, meth, c, Q, cc, nL, b0, n0, u0, own, kind, D, cA, ea, X⟩ := Γ
  intro H locs ls cells slots e1 e2 hP hS hl
  obtain ⟨hx, hb, hml, hown, hts, hKX, hsz, hki⟩ := C
  exact lv_if_eq hx hb hd ht (fun q => k1 q H locs ls cells slots e1 e2 hP hS hl) (fun q => k2 q H locs ls cells slots e1 e2 hP hS hl)
theorem s_if_ne {x : Int32} {off : Int} {t : Nat} (ht : (pc : Int) + off = (t : Int)) (C : aCF Γ) (hd : aDC Γ pc (.ifCond .ne off) 3) (k1 : ¬ x = 0 → aSW Γ t L r h) (k2 : x = 0 → aSW Γ (pc + 3) L r h) : aSW Γ pc L (.int x :: r) h := by
  obtain ⟨p, l, e, R, s, m, args, below, meth, c, Q, cc, nL, b0, n0, u0, own, kind, D, cA, ea, X⟩ := Γ
  intro H locs ls cells slots e1 e2 hP hS hl
  obtain ⟨hx, hb, hml, hown, hts, hKX, hsz, hki⟩ := C
  exact lv_if_ne hx hb hd ht (fun q => k1 q H locs ls cells slots e1 e2 hP hS hl) (fun q => k2 q H locs ls cells slots e1 e2 hP hS hl)
theorem s_if_lt {x : Int32} {off : Int} {t : Nat} (ht : (pc : Int) + off = (t : Int)) (C : aCF Γ) (hd : aDC Γ pc (.ifCond .lt off) 3) (k1 : x < 0 → aSW Γ t L r h) (k2 : ¬ x < 0 → aSW Γ (pc + 3) L r h) : aSW Γ pc L (.int x :: r) h := by
  obtain ⟨p, l, e, R, s, m, args, below, meth, c, Q, cc, nL, b0, n0, u0, own, kind, D, cA, ea, X⟩ := Γ
  intro H locs ls cells slots e1 e2 hP hS hl
  obtain ⟨hx, hb, hml, hown, hts, hKX, hsz, hki⟩ := C
  exact lv_if_lt hx hb hd ht (fun q => k1 q H locs ls cells slots e1 e2 hP hS hl) (fun q => k2 q H locs ls cells slots e1 e2 hP hS hl)
theorem s_if_ge {x : Int32} {off : Int} {t : Nat} (ht : (pc : Int) + off = (t : Int)) (C : aCF Γ) (hd : aDC Γ pc (.ifCond .ge off) 3) (k1 : 0 ≤ x → aSW Γ t L r h) (k2 : ¬ 0 ≤ x → aSW Γ (pc + 3) L r h) : aSW Γ pc L (.int x :: r) h := by
  obtain ⟨p, l, e, R, s, m, args, below, meth, c, Q, cc, nL, b0, n0, u0, own, kind, D, cA, ea, X⟩ := Γ
  intro H locs ls cells slots e1 e2 hP hS hl
  obtain ⟨hx, hb, hml, hown, hts, hKX, hsz, hki⟩ := C
  exact lv_if_ge hx hb hd ht (fun q => k1 q H locs ls cells slots e1 e2 hP hS hl) (fun q => k2 q H locs ls cells slots e1 e2 hP hS hl)
theorem s_if_gt {x : Int32} {off : Int} {t : Nat} (ht : (pc : Int) + off = (t : Int)) (C : aCF Γ) (hd : aDC Γ pc (.ifCond .gt off) 3) (k1 : 0 < x → aSW Γ t L r h) (k2 : ¬ 0 < x → aSW Γ (pc + 3) L r h) : aSW Γ pc L (.int x :: r) h := by
  obtain ⟨p, l, e, R, s, m, args, below, meth, c, Q, cc, nL, b0, n0, u0, own, kind, D, cA, ea, X⟩ := Γ
  intro H locs ls cells slots e1 e2 hP hS hl
  obtain ⟨hx, hb, hml, hown, hts, hKX, hsz, hki⟩ := C
  exact lv_if_gt hx hb hd ht (fun q => k1 q H locs ls cells slots e1 e2 hP hS hl) (fun q => k2 q H locs ls cells slots e1 e2 hP hS hl)
theorem s_if_le {x : Int32} {off : Int} {t : Nat} (ht : (pc : Int) + off = (t : Int)) (C : aCF Γ) (hd : aDC Γ pc (.ifCond .le off) 3) (k1 : x ≤ 0 → aSW Γ t L r h) (k2 : ¬ x ≤ 0 → aSW Γ (pc + 3) L r h) : aSW Γ pc L (.int x :: r) h := by
  obtain ⟨p, l, e, R, s, m, args, below, meth, c, Q, cc, nL, b0, n0, u0, own, kind, D, cA, ea, X⟩ := Γ
  intro H locs ls cells slots e1 e2 hP hS hl
  obtain ⟨hx, hb, hml, hown, hts, hKX, hsz, hki⟩ := C
  exact lv_if_le hx hb hd ht (fun q => k1 q H locs ls cells slots e1 e2 hP hS hl) (fun q => k2 q H locs ls cells slots e1 e2 hP hS hl)
theorem s_icmp_eq {x y : Int32} {off : Int} {t : Nat} (ht : (pc : Int) + off = (t : Int)) (C : aCF Γ) (hd : aDC Γ pc (.if_icmp .eq off) 3) (k1 : x = y → aSW Γ t L r h) (k2 : ¬ x = y → aSW Γ (pc + 3) L r h) : aSW Γ pc L (.int y :: .int x :: r) h := by
  obtain ⟨p, l, e, R, s, m, args, below, meth, c, Q, cc, nL, b0, n0, u0, own, kind, D, cA, ea, X⟩ := Γ
  intro H locs ls cells slots e1 e2 hP hS hl
  obtain ⟨hx, hb, hml, hown, hts, hKX, hsz, hki⟩ := C
  exact lv_icmp_eq hx hb hd ht (fun q => k1 q H locs ls cells slots e1 e2 hP hS hl) (fun q => k2 q H locs ls cells slots e1 e2 hP hS hl)
theorem s_icmp_ne {x y : Int32} {off : Int} {t : Nat} (ht : (pc : Int) + off = (t : Int)) (C : aCF Γ) (hd : aDC Γ pc (.if_icmp .ne off) 3) (k1 : ¬ x = y → aSW Γ t L r h) (k2 : x = y → aSW Γ (pc + 3) L r h) : aSW Γ pc L (.int y :: .int x :: r) h := by
  obtain ⟨p, l, e, R, s, m, args, below, meth, c, Q, cc, nL, b0, n0, u0, own, kind, D, cA, ea, X⟩ := Γ
  intro H locs ls cells slots e1 e2 hP hS hl
  obtain ⟨hx, hb, hml, hown, hts, hKX, hsz, hki⟩ := C
  exact lv_icmp_ne hx hb hd ht (fun q => k1 q H locs ls cells slots e1 e2 hP hS hl) (fun q => k2 q H locs ls cells slots e1 e2 hP hS hl)
theorem s_icmp_lt {x y : Int32} {off : Int} {t : Nat} (ht : (pc : Int) + off = (t : Int)) (C : aCF Γ) (hd : aDC Γ pc (.if_icmp .lt off) 3) (k1 : x < y → aSW Γ t L r h) (k2 : ¬ x < y → aSW Γ (pc + 3) L r h) : aSW Γ pc L (.int y :: .int x :: r) h := by
  obtain ⟨p, l, e, R, s, m, args, below, meth, c, Q, cc, nL, b0, n0, u0, own, kind, D, cA, ea, X⟩ := Γ
  intro H locs ls cells slots e1 e2 hP hS hl
  obtain ⟨hx, hb, hml, hown, hts, hKX, hsz, hki⟩ := C
  exact lv_icmp_lt hx hb hd ht (fun q => k1 q H locs ls cells slots e1 e2 hP hS hl) (fun q => k2 q H locs ls cells slots e1 e2 hP hS hl)
theorem s_icmp_ge {x y : Int32} {off : Int} {t : Nat} (ht : (pc : Int) + off = (t : Int)) (C : aCF Γ) (hd : aDC Γ pc (.if_icmp .ge off) 3) (k1 : y ≤ x → aSW Γ t L r h) (k2 : ¬ y ≤ x → aSW Γ (pc + 3) L r h) : aSW Γ pc L (.int y :: .int x :: r) h := by
  obtain ⟨p, l, e, R, s, m, args, below, meth, c, Q, cc, nL, b0, n0, u0, own, kind, D, cA, ea, X⟩ := Γ
  intro H locs ls cells slots e1 e2 hP hS hl
  obtain ⟨hx, hb, hml, hown, hts, hKX, hsz, hki⟩ := C
  exact lv_icmp_ge hx hb hd ht (fun q => k1 q H locs ls cells slots e1 e2 hP hS hl) (fun q => k2 q H locs ls cells slots e1 e2 hP hS hl)
theorem s_icmp_gt {x y : Int32} {off : Int} {t : Nat} (ht : (pc : Int) + off = (t : Int)) (C : aCF Γ) (hd : aDC Γ pc (.if_icmp .gt off) 3) (k1 : y < x → aSW Γ t L r h) (k2 : ¬ y < x → aSW Γ (pc + 3) L r h) : aSW Γ pc L (.int y :: .int x :: r) h := by
  obtain ⟨p, l, e, R, s, m, args, below, meth, c, Q, cc, nL, b0, n0, u0, own, kind, D, cA, ea, X⟩ := Γ
  intro H locs ls cells slots e1 e2 hP hS hl
  obtain ⟨hx, hb, hml, hown, hts, hKX, hsz, hki⟩ := C
  exact lv_icmp_gt hx hb hd ht (fun q => k1 q H locs ls cells slots e1 e2 hP hS hl) (fun q => k2 q H locs ls cells slots e1 e2 hP hS hl)
theorem s_icmp_le {x y : Int32} {off : Int} {t : Nat} (ht : (pc : Int) + off = (t : Int)) (C : aCF Γ) (hd : aDC Γ pc (.if_icmp .le off) 3) (k1 : x ≤ y → aSW Γ t L r h) (k2 : ¬ x ≤ y → aSW Γ (pc + 3) L r h) : aSW Γ pc L (.int y :: .int x :: r) h := by
  obtain ⟨p, l, e, R, s, m, args, below, meth, c, Q, cc, nL, b0, n0, u0, own, kind, D, cA, ea, X⟩ := Γ
  intro H locs ls cells slots e1 e2 hP hS hl
  obtain ⟨hx, hb, hml, hown, hts, hKX, hsz, hki⟩ := C
  exact lv_icmp_le hx hb hd ht (fun q => k1 q H locs ls cells slots e1 e2 hP hS hl) (fun q => k2 q H locs ls cells slots e1 e2 hP hS hl)
theorem s_ifnull {x : Nat} {off : Int} (C : aCF Γ) (hd : aDC Γ pc (.ifnull off) 3) (k : aSW Γ (pc + 3) L r h) : aSW Γ pc L (.ref x :: r) h := by
  obtain ⟨p, l, e, R, s, m, args, below, meth, c, Q, cc, nL, b0, n0, u0, own, kind, D, cA, ea, X⟩ := Γ
  intro H locs ls cells slots e1 e2 hP hS hl
  obtain ⟨hx, hb, hml, hown, hts, hKX, hsz, hki⟩ := C
  exact lv_ifnull hx hb hd (k H locs ls cells slots e1 e2 hP hS hl)
theorem s_ifnullN {off : Int} {t : Nat} (ht : (pc : Int) + off = (t : Int)) (C : aCF Γ) (hd : aDC Γ pc (.ifnull off) 3) (k : aSW Γ t L r h) : aSW Γ pc L (.null :: r) h := by
  obtain ⟨p, l, e, R, s, m, args, below, meth, c, Q, cc, nL, b0, n0, u0, own, kind, D, cA, ea, X⟩ := Γ
  intro H locs ls cells slots e1 e2 hP hS hl
  obtain ⟨hx, hb, hml, hown, hts, hKX, hsz, hki⟩ := C
  exact lv_ifnullN hx hb hd ht (k H locs ls cells slots e1 e2 hP hS hl)
theorem s_ifnonnull {x : Nat} {off : Int} {t : Nat} (ht : (pc : Int) + off = (t : Int)) (C : aCF Γ) (hd : aDC Γ pc (.ifnonnull off) 3) (k : aSW Γ t L r h) : aSW Γ pc L (.ref x :: r) h := by
  obtain ⟨p, l, e, R, s, m, args, below, meth, c, Q, cc, nL, b0, n0, u0, own, kind, D, cA, ea, X⟩ := Γ
  intro H locs ls cells slots e1 e2 hP hS hl
  obtain ⟨hx, hb, hml, hown, hts, hKX, hsz, hki⟩ := C
  exact lv_ifnonnull hx hb hd ht (k H locs ls cells slots e1 e2 hP hS hl)
theorem s_ifnonnullN {off : Int} (C : aCF Γ) (hd : aDC Γ pc (.ifnonnull off) 3) (k : aSW Γ (pc + 3) L r h) : aSW Γ pc L (.null :: r) h := by
  obtain ⟨p, l, e, R, s, m, args, below, meth, c, Q, cc, nL, b0, n0, u0, own, kind, D, cA, ea, X⟩ := Γ
  intro H locs ls cells slots e1 e2 hP hS hl
  obtain ⟨hx, hb, hml, hown, hts, hKX, hsz, hki⟩ := C
  exact lv_ifnonnullN hx hb hd (k H locs ls cells slots e1 e2 hP hS hl)
theorem s_tableOut {x : Int32} {d lo hi : Int} {offs : Array Int} {n t : Nat} (hq : x.toInt < lo ∨ hi < x.toInt) (ht : (pc : Int) + d = (t : Int)) (C : aCF Γ) (hd : aDC Γ pc (.tableswitch d lo hi offs) n) (k : aSW Γ t L r h) : aSW Γ pc L (.int x :: r) h := by
  obtain ⟨p, l, e, R, s, m, args, below, meth, c, Q, cc, nL, b0, n0, u0, own, kind, D, cA, ea, X⟩ := Γ
  intro H locs ls cells slots e1 e2 hP hS hl
  obtain ⟨hx, hb, hml, hown, hts, hKX, hsz, hki⟩ := C
  exact lv_tableOut hx hb hd hq ht (k H locs ls cells slots e1 e2 hP hS hl)
theorem s_tableIn {x : Int32} {d lo hi off : Int} {offs : Array Int} {n t : Nat} (q1 : ¬ x.toInt < lo) (q2 : ¬ hi < x.toInt) (ho : offs[(x.toInt - lo).toNat]? = some off) (ht : (pc : Int) + off = (t : Int)) (C : aCF Γ) (hd : aDC Γ pc (.tableswitch d lo hi offs) n) (k : aSW Γ t L r h) : aSW Γ pc L (.int x :: r) h := by
  obtain ⟨p, l, e, R, s, m, args, below, meth, c, Q, cc, nL, b0, n0, u0, own, kind, D, cA, ea, X⟩ := Γ
  intro H locs ls cells slots e1 e2 hP hS hl
  obtain ⟨hx, hb, hml, hown, hts, hKX, hsz, hki⟩ := C
  exact lv_tableIn hx hb hd q1 q2 ho ht (k H locs ls cells slots e1 e2 hP hS hl)
theorem s_lookup {x : Int32} {d off : Int} {ps : Array (Int × Int)} {n t : Nat} (hp : (ps.toList.zip (ps.toList.drop 1)).all (fun (a, next) => a.1 < next.1) = true) (ho : Op.lookupswitch.offset ps.toList d x.toInt = off) (ht : (pc : Int) + off = (t : Int)) (C : aCF Γ) (hd : aDC Γ pc (.lookupswitch d ps) n) (k : aSW Γ t L r h) : aSW Γ pc L (.int x :: r) h := by
  obtain ⟨p, l, e, R, s, m, args, below, meth, c, Q, cc, nL, b0, n0, u0, own, kind, D, cA, ea, X⟩ := Γ
  intro H locs ls cells slots e1 e2 hP hS hl
  obtain ⟨hx, hb, hml, hown, hts, hKX, hsz, hki⟩ := C
  exact lv_lookup hx hb hd hp ho ht (k H locs ls cells slots e1 e2 hP hS hl)
end AZ
end
