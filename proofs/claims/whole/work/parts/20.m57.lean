def lL_law_18 (u8 u9 u10 : Int)  : Nat → ZS → Int → Option (Int × ZS)
  | 0, _, _ => none
  | n1 + 1, s7, x11 => (zlen s7 100 u8).bind (fun v12 => if (wrap (v12 - 6)) < x11 then (some (1, s7)) else ((zal s7 100 u8 x11).bind (fun v14 => zjn (fun (K1521 : ZS → Option (Int × ZS)) => if (iAnd v14 63) = 0 then ((zal s7 100 u8 (wrap (x11 + 1))).bind (fun v16 => (zal s7 100 u8 (wrap (x11 + 2))).bind (fun v17 => (zal s7 100 u8 (wrap (x11 + 3))).bind (fun v18 => (zal s7 100 u8 (wrap (x11 + 4))).bind (fun v19 => zb (zv s7 11 u9 (fX11_rate s7 u9 v16 v17 v18 v19)) (fun v20 s21 => (zal s21 100 u8 (wrap (x11 + 1))).bind (fun v23 => (zal s21 100 u8 (wrap (x11 + 2))).bind (fun v24 => (zal s21 100 u8 (wrap (x11 + 3))).bind (fun v25 => (zal s21 100 u8 (wrap (x11 + 4))).bind (fun v26 => zb (zv s21 12 u10 (fX12_rate s21 u10 v23 v24 v25 v26)) (fun v27 s28 => if v20 = v27 then (K1521 s28) else (none)))))))))))) else (if (iAnd v14 63) = 1 then ((zal s7 100 u8 (wrap (x11 + 1))).bind (fun v32 => (zal s7 100 u8 (wrap (x11 + 2))).bind (fun v33 => (zal s7 100 u8 (wrap (x11 + 3))).bind (fun v34 => zb (zv s7 11 u9 (fX11_toll s7 u9 v32 v33 v34)) (fun v35 s36 => (zal s36 100 u8 (wrap (x11 + 1))).bind (fun v38 => (zal s36 100 u8 (wrap (x11 + 2))).bind (fun v39 => (zal s36 100 u8 (wrap (x11 + 3))).bind (fun v40 => zb (zv s36 12 u10 (fX12_toll s36 u10 v38 v39 v40)) (fun v41 s42 => if v35 = v41 then (K1521 s42) else (none)))))))))) else (if (iAnd v14 63) = 2 then ((zal s7 100 u8 (wrap (x11 + 1))).bind (fun v46 => (zal s7 100 u8 (wrap (x11 + 2))).bind (fun v47 => (zal s7 100 u8 (wrap (x11 + 3))).bind (fun v48 => (zal s7 100 u8 (wrap (x11 + 4))).bind (fun v49 => zb (zv s7 11 u9 (fX11_sort s7 u9 v46 v47 v48 v49)) (fun v50 s51 => (zal s51 100 u8 (wrap (x11 + 1))).bind (fun v53 => (zal s51 100 u8 (wrap (x11 + 2))).bind (fun v54 => (zal s51 100 u8 (wrap (x11 + 3))).bind (fun v55 => (zal s51 100 u8 (wrap (x11 + 4))).bind (fun v56 => zb (zv s51 12 u10 (fX12_sort s51 u10 v53 v54 v55 v56)) (fun v57 s58 => if v50 = v57 then (K1521 s58) else (none)))))))))))) else (if (iAnd v14 63) = 3 then ((zal s7 100 u8 (wrap (x11 + 1))).bind (fun v62 => zb (zv s7 11 u9 (fX11_cart s7 u9 v62)) (fun v63 s64 => (zal s64 100 u8 (wrap (x11 + 1))).bind (fun v66 => zb (zv s64 12 u10 (fX12_cart s64 u10 v66)) (fun v67 s68 => if v63 = v67 then (K1521 s68) else (none)))))) else (if (iAnd v14 63) = 4 then ((zal s7 100 u8 (wrap (x11 + 1))).bind (fun v72 => (zal s7 100 u8 (wrap (x11 + 2))).bind (fun v73 => zb (zv s7 11 u9 (fX11_wishes s7 u9 v72 v73)) (fun v74 s75 => (zal s75 100 u8 (wrap (x11 + 1))).bind (fun v77 => (zal s75 100 u8 (wrap (x11 + 2))).bind (fun v78 => zb (zv s75 12 u10 (fX12_wishes s75 u10 v77 v78)) (fun v79 s80 => if v74 = v79 then (K1521 s80) else (none)))))))) else (if (iAnd v14 63) = 5 then ((zal s7 100 u8 (wrap (x11 + 1))).bind (fun v84 => (zal s7 100 u8 (wrap (x11 + 2))).bind (fun v85 => (zal s7 100 u8 (wrap (x11 + 3))).bind (fun v86 => zb (zv s7 11 u9 (fX11_gateTold s7 u9 v84 v85 v86)) (fun v87 s88 => (zal s88 100 u8 (wrap (x11 + 1))).bind (fun v90 => (zal s88 100 u8 (wrap (x11 + 2))).bind (fun v91 => (zal s88 100 u8 (wrap (x11 + 3))).bind (fun v92 => zb (zv s88 12 u10 (fX12_gateTold s88 u10 v90 v91 v92)) (fun v93 s94 => if v87 = v93 then (K1521 s94) else (none)))))))))) else (if (iAnd v14 63) = 6 then ((zal s7 100 u8 (wrap (x11 + 1))).bind (fun v98 => (zal s7 100 u8 (wrap (x11 + 2))).bind (fun v99 => zb (zv s7 11 u9 (fX11_sortTold s7 u9 v98 v99)) (fun v100 s101 => (zal s101 100 u8 (wrap (x11 + 1))).bind (fun v103 => (zal s101 100 u8 (wrap (x11 + 2))).bind (fun v104 => zb (zv s101 12 u10 (fX12_sortTold s101 u10 v103 v104)) (fun v105 s106 => if v100 = v105 then (K1521 s106) else (none)))))))) else (if (iAnd v14 63) = 7 then ((zal s7 100 u8 (wrap (x11 + 1))).bind (fun v110 => (zal s7 100 u8 (wrap (x11 + 2))).bind (fun v111 => (zal s7 100 u8 (wrap (x11 + 3))).bind (fun v112 => zb (zv s7 11 u9 (fX11_feed s7 u9 (lOr (lShl v110 32) (lAnd v111 4294967295)) v112)) (fun v113 s114 => (zal s114 100 u8 (wrap (x11 + 1))).bind (fun v116 => (zal s114 100 u8 (wrap (x11 + 2))).bind (fun v117 => (zal s114 100 u8 (wrap (x11 + 3))).bind (fun v118 => zb (zv s114 12 u10 (fX12_feed s114 u10 (lOr (lShl v116 32) (lAnd v117 4294967295)) v118)) (fun v119 s120 => if v113 = v119 then (K1521 s120) else (none)))))))))) else (if (iAnd v14 63) = 8 then (zb (zv s7 11 u9 (fX11_text s7 u9)) (fun v124 s125 => zb (zv s125 12 u10 (fX12_text s125 u10)) (fun v127 s128 => if v124 = v127 then (K1521 s128) else (none)))) else (if (iAnd v14 63) = 9 then ((zal s7 100 u8 (wrap (x11 + 1))).bind (fun v132 => zb (zv s7 11 u9 (fX11_force s7 u9 v132)) (fun v133 s134 => (zal s134 100 u8 (wrap (x11 + 1))).bind (fun v136 => zb (zv s134 12 u10 (fX12_force s134 u10 v136)) (fun v137 s138 => if v133 = v137 then (K1521 s138) else (none)))))) else (if (iAnd v14 63) = 10 then ((zal s7 100 u8 (wrap (x11 + 1))).bind (fun v142 => (zal s7 100 u8 (wrap (x11 + 2))).bind (fun v143 => zb (zv s7 11 u9 (fX11_way s7 u9 v142 v143)) (fun v144 s145 => (zal s145 100 u8 (wrap (x11 + 1))).bind (fun v147 => (zal s145 100 u8 (wrap (x11 + 2))).bind (fun v148 => zb (zv s145 12 u10 (fX12_way s145 u10 v147 v148)) (fun v149 s150 => if v144 = v149 then (K1521 s150) else (none)))))))) else (if (iAnd v14 63) = 11 then ((zal s7 100 u8 (wrap (x11 + 1))).bind (fun v154 => (zal s7 100 u8 (wrap (x11 + 2))).bind (fun v155 => zb (zv s7 11 u9 (fX11_wayTold s7 u9 v154 v155)) (fun v156 s157 => (zal s157 100 u8 (wrap (x11 + 1))).bind (fun v159 => (zal s157 100 u8 (wrap (x11 + 2))).bind (fun v160 => zb (zv s157 12 u10 (fX12_wayTold s157 u10 v159 v160)) (fun v161 s162 => if v156 = v161 then (K1521 s162) else (none)))))))) else (if (iAnd v14 63) = 12 then ((zal s7 100 u8 (wrap (x11 + 1))).bind (fun v166 => (zal s7 100 u8 (wrap (x11 + 2))).bind (fun v167 => (zal s7 100 u8 (wrap (x11 + 3))).bind (fun v168 => zb (zv s7 11 u9 (fX11_set s7 u9 v166 v167 v168)) (fun v169 s170 => (zal s170 100 u8 (wrap (x11 + 1))).bind (fun v172 => (zal s170 100 u8 (wrap (x11 + 2))).bind (fun v173 => (zal s170 100 u8 (wrap (x11 + 3))).bind (fun v174 => zb (zv s170 12 u10 (fX12_set s170 u10 v172 v173 v174)) (fun v175 s176 => if v169 = v175 then (K1521 s176) else (none)))))))))) else (if (iAnd v14 63) = 13 then ((zal s7 100 u8 (wrap (x11 + 1))).bind (fun v180 => (zal s7 100 u8 (wrap (x11 + 2))).bind (fun v181 => (zal s7 100 u8 (wrap (x11 + 3))).bind (fun v182 => zb (zv s7 11 u9 (fX11_of s7 u9 v180 v181 v182)) (fun v183 s184 => (zal s184 100 u8 (wrap (x11 + 1))).bind (fun v186 => (zal s184 100 u8 (wrap (x11 + 2))).bind (fun v187 => (zal s184 100 u8 (wrap (x11 + 3))).bind (fun v188 => zb (zv s184 12 u10 (fX12_of s184 u10 v186 v187 v188)) (fun v189 s190 => if v183 = v189 then (K1521 s190) else (none)))))))))) else (if (iAnd v14 63) = 14 then ((zal s7 100 u8 (wrap (x11 + 1))).bind (fun v194 => (zal s7 100 u8 (wrap (x11 + 2))).bind (fun v195 => (zal s7 100 u8 (wrap (x11 + 3))).bind (fun v196 => zb (zv s7 11 u9 (fX11_line s7 u9 v194 v195 v196)) (fun v197 s198 => (zal s198 100 u8 (wrap (x11 + 1))).bind (fun v200 => (zal s198 100 u8 (wrap (x11 + 2))).bind (fun v201 => (zal s198 100 u8 (wrap (x11 + 3))).bind (fun v202 => zb (zv s198 12 u10 (fX12_line s198 u10 v200 v201 v202)) (fun v203 s204 => if v197 = v203 then (K1521 s204) else (none)))))))))) else (if (iAnd v14 63) = 15 then ((zal s7 100 u8 (wrap (x11 + 1))).bind (fun v208 => (zal s7 100 u8 (wrap (x11 + 2))).bind (fun v209 => zb (zv s7 11 u9 (fX11_passes s7 u9 v208 v209)) (fun v210 s211 => (zal s211 100 u8 (wrap (x11 + 1))).bind (fun v213 => (zal s211 100 u8 (wrap (x11 + 2))).bind (fun v214 => zb (zv s211 12 u10 (fX12_passes s211 u10 v213 v214)) (fun v215 s216 => if v210 = v215 then (K1521 s216) else (none)))))))) else (if (iAnd v14 63) = 16 then ((zal s7 100 u8 (wrap (x11 + 1))).bind (fun v220 => (zal s7 100 u8 (wrap (x11 + 2))).bind (fun v221 => zb (zv s7 11 u9 (fX11_sum s7 u9 v220 v221)) (fun v222 s223 => (zal s223 100 u8 (wrap (x11 + 1))).bind (fun v225 => (zal s223 100 u8 (wrap (x11 + 2))).bind (fun v226 => zb (zv s223 12 u10 (fX12_sum s223 u10 v225 v226)) (fun v227 s228 => if (lCmp v222 v227) = 0 then (K1521 s228) else (none)))))))) else (if (iAnd v14 63) = 17 then ((zal s7 100 u8 (wrap (x11 + 1))).bind (fun v232 => (zal s7 100 u8 (wrap (x11 + 2))).bind (fun v233 => zb (zv s7 11 u9 (fX11_judge s7 u9 v232 v233)) (fun v234 s235 => (zal s235 100 u8 (wrap (x11 + 1))).bind (fun v237 => (zal s235 100 u8 (wrap (x11 + 2))).bind (fun v238 => zb (zv s235 12 u10 (fX12_judge s235 u10 v237 v238)) (fun v239 s240 => if v234 = v239 then (K1521 s240) else (none)))))))) else (if (iAnd v14 63) = 18 then ((zal s7 100 u8 (wrap (x11 + 1))).bind (fun v244 => (zal s7 100 u8 (wrap (x11 + 2))).bind (fun v245 => zb (zv s7 11 u9 (fX11_rest s7 u9 v244 v245)) (fun v246 s247 => (zal s247 100 u8 (wrap (x11 + 1))).bind (fun v249 => (zal s247 100 u8 (wrap (x11 + 2))).bind (fun v250 => zb (zv s247 12 u10 (fX12_rest s247 u10 v249 v250)) (fun v251 s252 => if v246 = v251 then (K1521 s252) else (none)))))))) else (if (iAnd v14 63) = 19 then ((zal s7 100 u8 (wrap (x11 + 1))).bind (fun v256 => (zal s7 100 u8 (wrap (x11 + 2))).bind (fun v257 => (zal s7 100 u8 (wrap (x11 + 3))).bind (fun v258 => zb (zv s7 11 u9 (fX11_other s7 u9 v256 v257 v258)) (fun v259 s260 => (zal s260 100 u8 (wrap (x11 + 1))).bind (fun v262 => (zal s260 100 u8 (wrap (x11 + 2))).bind (fun v263 => (zal s260 100 u8 (wrap (x11 + 3))).bind (fun v264 => zb (zv s260 12 u10 (fX12_other s260 u10 v262 v263 v264)) (fun v265 s266 => if v259 = v265 then (K1521 s266) else (none)))))))))) else (if (iAnd v14 63) = 20 then ((zal s7 100 u8 (wrap (x11 + 1))).bind (fun v270 => (zal s7 100 u8 (wrap (x11 + 2))).bind (fun v271 => (zal s7 100 u8 (wrap (x11 + 3))).bind (fun v272 => zb (zv s7 11 u9 (fX11_swap s7 u9 v270 v271 v272)) (fun v273 s274 => (zal s274 100 u8 (wrap (x11 + 1))).bind (fun v276 => (zal s274 100 u8 (wrap (x11 + 2))).bind (fun v277 => (zal s274 100 u8 (wrap (x11 + 3))).bind (fun v278 => zb (zv s274 12 u10 (fX12_swap s274 u10 v276 v277 v278)) (fun v279 s280 => if v273 = v279 then (K1521 s280) else (none)))))))))) else (if (iAnd v14 63) = 21 then ((zal s7 100 u8 (wrap (x11 + 1))).bind (fun v284 => (zal s7 100 u8 (wrap (x11 + 2))).bind (fun v285 => (zal s7 100 u8 (wrap (x11 + 3))).bind (fun v286 => (zal s7 100 u8 (wrap (x11 + 4))).bind (fun v287 => zb (zv s7 11 u9 (fX11_beside s7 u9 v284 v285 v286 v287)) (fun v288 s289 => (zal s289 100 u8 (wrap (x11 + 1))).bind (fun v291 => (zal s289 100 u8 (wrap (x11 + 2))).bind (fun v292 => (zal s289 100 u8 (wrap (x11 + 3))).bind (fun v293 => (zal s289 100 u8 (wrap (x11 + 4))).bind (fun v294 => zb (zv s289 12 u10 (fX12_beside s289 u10 v291 v292 v293 v294)) (fun v295 s296 => if (lCmp v288 v295) = 0 then (K1521 s296) else (none)))))))))))) else (if (iAnd v14 63) = 22 then ((zal s7 100 u8 (wrap (x11 + 1))).bind (fun v300 => (zal s7 100 u8 (wrap (x11 + 2))).bind (fun v301 => (zal s7 100 u8 (wrap (x11 + 3))).bind (fun v302 => (zal s7 100 u8 (wrap (x11 + 4))).bind (fun v303 => (zal s7 100 u8 (wrap (x11 + 5))).bind (fun v304 => zb (zv s7 11 u9 (fX11_sticks s7 u9 v300 v301 v302 v303 v304)) (fun v305 s306 => (zal s306 100 u8 (wrap (x11 + 1))).bind (fun v308 => (zal s306 100 u8 (wrap (x11 + 2))).bind (fun v309 => (zal s306 100 u8 (wrap (x11 + 3))).bind (fun v310 => (zal s306 100 u8 (wrap (x11 + 4))).bind (fun v311 => (zal s306 100 u8 (wrap (x11 + 5))).bind (fun v312 => zb (zv s306 12 u10 (fX12_sticks s306 u10 v308 v309 v310 v311 v312)) (fun v313 s314 => if (lCmp v305 v313) = 0 then (K1521 s314) else (none)))))))))))))) else (if (iAnd v14 63) = 23 then ((zal s7 100 u8 (wrap (x11 + 1))).bind (fun v318 => (zal s7 100 u8 (wrap (x11 + 2))).bind (fun v319 => zb (zv s7 11 u9 (fX11_shift s7 u9 v318 v319)) (fun v320 s321 => (zal s321 100 u8 (wrap (x11 + 1))).bind (fun v323 => (zal s321 100 u8 (wrap (x11 + 2))).bind (fun v324 => zb (zv s321 12 u10 (fX12_shift s321 u10 v323 v324)) (fun v325 s326 => if (lCmp v320 v325) = 0 then (K1521 s326) else (none)))))))) else (if (iAnd v14 63) = 24 then ((zal s7 100 u8 (wrap (x11 + 1))).bind (fun v330 => (zal s7 100 u8 (wrap (x11 + 2))).bind (fun v331 => (zal s7 100 u8 (wrap (x11 + 3))).bind (fun v332 => (zal s7 100 u8 (wrap (x11 + 4))).bind (fun v333 => zb (zv s7 11 u9 (fX11_finest s7 u9 v330 v331 v332 v333)) (fun v334 s335 => (zal s335 100 u8 (wrap (x11 + 1))).bind (fun v337 => (zal s335 100 u8 (wrap (x11 + 2))).bind (fun v338 => (zal s335 100 u8 (wrap (x11 + 3))).bind (fun v339 => (zal s335 100 u8 (wrap (x11 + 4))).bind (fun v340 => zb (zv s335 12 u10 (fX12_finest s335 u10 v337 v338 v339 v340)) (fun v341 s342 => if v334 = v341 then (K1521 s342) else (none)))))))))))) else (if (iAnd v14 63) = 25 then ((zal s7 100 u8 (wrap (x11 + 1))).bind (fun v346 => (zal s7 100 u8 (wrap (x11 + 2))).bind (fun v347 => (zal s7 100 u8 (wrap (x11 + 3))).bind (fun v348 => (zal s7 100 u8 (wrap (x11 + 4))).bind (fun v349 => zb (zv s7 11 u9 (fX11_split s7 u9 v346 v347 v348 v349)) (fun v350 s351 => (zal s351 100 u8 (wrap (x11 + 1))).bind (fun v353 => (zal s351 100 u8 (wrap (x11 + 2))).bind (fun v354 => (zal s351 100 u8 (wrap (x11 + 3))).bind (fun v355 => (zal s351 100 u8 (wrap (x11 + 4))).bind (fun v356 => zb (zv s351 12 u10 (fX12_split s351 u10 v353 v354 v355 v356)) (fun v357 s358 => if (lCmp v350 v357) = 0 then (K1521 s358) else (none)))))))))))) else (if (iAnd v14 63) = 26 then ((zal s7 100 u8 (wrap (x11 + 1))).bind (fun v362 => zb (zv s7 11 u9 (fX11_count s7 u9 v362)) (fun v363 s364 => (zal s364 100 u8 (wrap (x11 + 1))).bind (fun v366 => zb (zv s364 12 u10 (fX12_count s364 u10 v366)) (fun v367 s368 => if v363 = v367 then (K1521 s368) else (none)))))) else (if (iAnd v14 63) = 27 then (zb (zv s7 11 u9 (fX11_image s7 u9)) (fun v372 s373 => zb (zv s373 12 u10 (fX12_image s373 u10)) (fun v375 s376 => if v372 = v375 then (K1521 s376) else (none)))) else (if (iAnd v14 63) = 28 then (zb (zv s7 11 u9 (fX11_back s7 u9)) (fun v380 s381 => zb (zv s381 12 u10 (fX12_back s381 u10)) (fun v383 s384 => if v380 = v383 then (K1521 s384) else (none)))) else (if (iAnd v14 63) = 29 then ((zal s7 100 u8 (wrap (x11 + 1))).bind (fun v388 => (zal s7 100 u8 (wrap (x11 + 2))).bind (fun v389 => (zal s7 100 u8 (wrap (x11 + 3))).bind (fun v390 => zb (zv s7 11 u9 (fX11_sheet s7 u9 v388 v389 v390)) (fun v391 s392 => (zal s392 100 u8 (wrap (x11 + 1))).bind (fun v394 => (zal s392 100 u8 (wrap (x11 + 2))).bind (fun v395 => (zal s392 100 u8 (wrap (x11 + 3))).bind (fun v396 => zb (zv s392 12 u10 (fX12_sheet s392 u10 v394 v395 v396)) (fun v397 s398 => if v391 = v397 then (K1521 s398) else (none)))))))))) else (if (iAnd v14 63) = 30 then ((zal s7 100 u8 (wrap (x11 + 1))).bind (fun v402 => (zal s7 100 u8 (wrap (x11 + 2))).bind (fun v403 => (zal s7 100 u8 (wrap (x11 + 3))).bind (fun v404 => zb (zv s7 11 u9 (fX11_cell s7 u9 v402 v403 v404)) (fun v405 s406 => (zal s406 100 u8 (wrap (x11 + 1))).bind (fun v408 => (zal s406 100 u8 (wrap (x11 + 2))).bind (fun v409 => (zal s406 100 u8 (wrap (x11 + 3))).bind (fun v410 => zb (zv s406 12 u10 (fX12_cell s406 u10 v408 v409 v410)) (fun v411 s412 => if v405 = v411 then (K1521 s412) else (none)))))))))) else (if (iAnd v14 63) = 31 then ((zal s7 100 u8 (wrap (x11 + 1))).bind (fun v416 => (zal s7 100 u8 (wrap (x11 + 2))).bind (fun v417 => (zal s7 100 u8 (wrap (x11 + 3))).bind (fun v418 => (zal s7 100 u8 (wrap (x11 + 4))).bind (fun v419 => (zal s7 100 u8 (wrap (x11 + 5))).bind (fun v420 => zb (zv s7 11 u9 (fX11_copy s7 u9 v416 v417 v418 v419 v420)) (fun v421 s422 => (zal s422 100 u8 (wrap (x11 + 1))).bind (fun v424 => (zal s422 100 u8 (wrap (x11 + 2))).bind (fun v425 => (zal s422 100 u8 (wrap (x11 + 3))).bind (fun v426 => (zal s422 100 u8 (wrap (x11 + 4))).bind (fun v427 => (zal s422 100 u8 (wrap (x11 + 5))).bind (fun v428 => zb (zv s422 12 u10 (fX12_copy s422 u10 v424 v425 v426 v427 v428)) (fun v429 s430 => if v421 = v429 then (K1521 s430) else (none)))))))))))))) else (if (iAnd v14 63) = 32 then ((zal s7 100 u8 (wrap (x11 + 1))).bind (fun v434 => (zal s7 100 u8 (wrap (x11 + 2))).bind (fun v435 => (zal s7 100 u8 (wrap (x11 + 3))).bind (fun v436 => (zal s7 100 u8 (wrap (x11 + 4))).bind (fun v437 => zb (zv s7 11 u9 (fX11_rates s7 u9 v434 v435 v436 v437)) (fun v438 s439 => (zal s439 100 u8 (wrap (x11 + 1))).bind (fun v441 => (zal s439 100 u8 (wrap (x11 + 2))).bind (fun v442 => (zal s439 100 u8 (wrap (x11 + 3))).bind (fun v443 => (zal s439 100 u8 (wrap (x11 + 4))).bind (fun v444 => zb (zv s439 12 u10 (fX12_rates s439 u10 v441 v442 v443 v444)) (fun v445 s446 => if v438 = v445 then (K1521 s446) else (none)))))))))))) else (if (iAnd v14 63) = 33 then ((zal s7 100 u8 (wrap (x11 + 1))).bind (fun v450 => (zal s7 100 u8 (wrap (x11 + 2))).bind (fun v451 => zb (zv s7 11 u9 (fX11_taken s7 u9 v450 v451)) (fun v452 s453 => (zal s453 100 u8 (wrap (x11 + 1))).bind (fun v455 => (zal s453 100 u8 (wrap (x11 + 2))).bind (fun v456 => zb (zv s453 12 u10 (fX12_taken s453 u10 v455 v456)) (fun v457 s458 => if v452 = v457 then (K1521 s458) else (none)))))))) else (K1521 s7))))))))))))))))))))))))))))))))))) (fun (s461 : ZS) => lL_law_18 u8 u9 u10 n1 s461 (wrap (x11 + 6))))))

def fL_law (s0 : ZS) (a0 : Int) : Option (Int × ZS) := if (sN s0 : Int) < 0 then none else (zb (fX11_init (znew s0 11 17) (sN s0 : Int)) (fun v1 s2 => if (sN s2 : Int) < 0 then none else (zb (fX12_init (znew s2 12 49) (sN s2 : Int)) (fun v4 s5 => lL_law_18 a0 (sN s0 : Int) (sN s2 : Int) 1000 s5 0))))
set_option maxHeartbeats 4000000 in
set_option maxRecDepth 100000 in
theorem mL_law {X : ZX} {G : Prop} (hX : G → ZOk X cL_law RL 74) (hR : G → zLawRet X) (hE : zOkE (xE X)) (hxn : xn X = 4) (hk : xk X = 4) (s0 : ZS) (a0 : Int) : Zj X G 0 [(0, (2, a0))] [] s0 (fL_law s0 a0) := by
  unfold fL_law
  refine z_new (pc := 0) hX zc11 (by decide) wd83 wd84 wd61 dL_law_0 ?_
  refine z_dup (pc := 3) hX zn2 dL_law_3 ?_
  refine z_callI (n := 0) (st := [(2, (sN s0 : Int))]) (pc := 4) hX rfl (mX11_init _ hE _ _ _) ⟨wd85, wd61, wd87, ⟨by decide, by decide, by decide⟩, by decide⟩ rfl wd86 rfl rfl (by decide) (Nat.le_of_ble_eq_true rfl) dL_law_4 (fun v1 s2 r3 => ?_)
  show Zj X G 7 [(0, (2, a0))] [(2, (sN s0 : Int))] _ _
  refine z_astore_n (lv' := [(1, (2, (sN s0 : Int))), (0, (2, a0))]) (pc := 7) hX dL_law_7 rfl (zlt hxn rfl) rfl ?_
  refine z_new (pc := 8) hX zc12 (by decide) wd994 wd995 wd67 dL_law_8 ?_
  refine z_dup (pc := 11) hX zn2 dL_law_11 ?_
  refine z_callI (n := 0) (st := [(2, (sN s2 : Int))]) (pc := 12) hX rfl (mX12_init _ hE _ _ _) ⟨wd996, wd67, wd998, ⟨by decide, by decide, by decide⟩, by decide⟩ rfl wd997 rfl rfl (by decide) (Nat.le_of_ble_eq_true rfl) dL_law_12 (fun v4 s5 r6 => ?_)
  show Zj X G 15 [(1, (2, (sN s0 : Int))), (0, (2, a0))] [(2, (sN s2 : Int))] _ _
  refine z_astore_n (lv' := [(2, (2, (sN s2 : Int))), (1, (2, (sN s0 : Int))), (0, (2, a0))]) (pc := 15) hX dL_law_15 rfl (zlt hxn rfl) rfl ?_
  refine z_iconst (pc := 16) hX dL_law_16 ?_
  refine z_istore_n (lv' := [(3, (0, 0)), (2, (2, (sN s2 : Int))), (1, (2, (sN s0 : Int))), (0, (2, a0))]) (pc := 17) hX dL_law_17 rfl (zlt hxn rfl) rfl ?_
  have hl18 : ∀ (u8 u9 u10 : Int), ∀ (n1 : Nat) (s7 : ZS) (x11 : Int), Zj X G 18 [(0, (2, u8)), (1, (2, u9)), (2, (2, u10)), (3, (0, x11))] [] s7 (lL_law_18 u8 u9 u10 n1 s7 x11) := by
    intro u8 u9 u10 n1
    induction n1 with
    | zero => intro _ _; exact z_none
    | succ n1 ih1 =>
      intro s7 x11
      rw [lL_law_18]
      refine z_iload_n (pc := 18) hX 3 dL_law_18 rfl rfl ?_
      refine z_aload_n (pc := 19) hX 0 dL_law_19 rfl rfl ?_
      refine z_alen (pc := 20) hX dL_law_20 (fun v12 => ?_)
      refine z_bipush (pc := 21) hX dL_law_21 ?_
      refine z_isub (pc := 23) hX dL_law_23 ?_
      refine z_icmp_gt (pc := 24) hX 1527 dL_law_24 (by decide) (fun h13 => ?_) (fun h13 => ?_)
      · refine z_iconst (pc := 1527) hX dL_law_1527 ?_
        exact z_lawret (pc := 1528) hX hR hk dL_law_1528
      · refine z_aload_n (pc := 27) hX 0 dL_law_27 rfl rfl ?_
        refine z_iload_n (pc := 28) hX 3 dL_law_28 rfl rfl ?_
        refine z_iald (pc := 29) hX dL_law_29 (fun v14 => ?_)
        refine z_bipush (pc := 30) hX dL_law_30 ?_
        refine z_iand (pc := 32) hX dL_law_32 ?_
        refine z_jn (fun K1521 eK1521 => ?_)
        have hK1521 : ∀ (s461 : ZS), Zj X G 1521 [(0, (2, u8)), (1, (2, u9)), (2, (2, u10)), (3, (0, x11))] [] s461 (K1521 s461) := by
          intro s461
          rw [eK1521]
          refine z_iinc (lv' := [(3, (0, (wrap (x11 + 6)))), (0, (2, u8)), (1, (2, u9)), (2, (2, u10))]) (pc := 1521) hX 3 dL_law_1521 rfl (zlt hxn rfl) rfl ?_
          refine z_goto (pc := 1524) hX 18 dL_law_1524 (by decide) ?_
          refine z_pick (lv' := [(0, (2, u8)), (1, (2, u9)), (2, (2, u10)), (3, (0, (wrap (x11 + 6))))]) [1, 2, 3, 0] rfl ?_
          exact ih1 _ _
        clear eK1521
        by_cases h15 : (iAnd v14 63) = 0
        · refine z_eq (if_pos h15) ?_
          refine z_tswIn (pc := 33) hX 184 dL_law_33 h15 (by decide) (by decide) rfl (by decide) ?_
          refine z_aload_n (pc := 184) hX 1 dL_law_184 rfl rfl ?_
          refine z_aload_n (pc := 185) hX 0 dL_law_185 rfl rfl ?_
          refine z_iload_n (pc := 186) hX 3 dL_law_186 rfl rfl ?_
          refine z_iconst (pc := 187) hX dL_law_187 ?_
          refine z_iadd (pc := 188) hX dL_law_188 ?_
          refine z_iald (pc := 189) hX dL_law_189 (fun v16 => ?_)
          refine z_aload_n (pc := 190) hX 0 dL_law_190 rfl rfl ?_
          refine z_iload_n (pc := 191) hX 3 dL_law_191 rfl rfl ?_
          refine z_iconst (pc := 192) hX dL_law_192 ?_
          refine z_iadd (pc := 193) hX dL_law_193 ?_
          refine z_iald (pc := 194) hX dL_law_194 (fun v17 => ?_)
          refine z_aload_n (pc := 195) hX 0 dL_law_195 rfl rfl ?_
          refine z_iload_n (pc := 196) hX 3 dL_law_196 rfl rfl ?_
          refine z_iconst (pc := 197) hX dL_law_197 ?_
          refine z_iadd (pc := 198) hX dL_law_198 ?_
          refine z_iald (pc := 199) hX dL_law_199 (fun v18 => ?_)
          refine z_aload_n (pc := 200) hX 0 dL_law_200 rfl rfl ?_
          refine z_iload_n (pc := 201) hX 3 dL_law_201 rfl rfl ?_
          refine z_iconst (pc := 202) hX dL_law_202 ?_
          refine z_iadd (pc := 203) hX dL_law_203 ?_
          refine z_iald (pc := 204) hX dL_law_204 (fun v19 => ?_)
          refine z_callV (n := 4) (st := []) (pc := 205) hX zc11 rfl (fun _ => (mX11_rate _ hE _ _ _ _ _ _ _)) ⟨wd322, wd61, wd325, ⟨by decide, by decide, by decide⟩, by decide⟩ rfl wd323 wd324 rfl rfl (by decide) (Nat.le_of_ble_eq_true rfl) dL_law_205 (fun v20 s21 r22 => ?_)
          show Zj X G 208 [(0, (2, u8)), (1, (2, u9)), (2, (2, u10)), (3, (0, x11))] [(0, v20)] _ _
          refine z_aload_n (pc := 208) hX 2 dL_law_208 rfl rfl ?_
          refine z_aload_n (pc := 209) hX 0 dL_law_209 rfl rfl ?_
          refine z_iload_n (pc := 210) hX 3 dL_law_210 rfl rfl ?_
          refine z_iconst (pc := 211) hX dL_law_211 ?_
          refine z_iadd (pc := 212) hX dL_law_212 ?_
          refine z_iald (pc := 213) hX dL_law_213 (fun v23 => ?_)
          refine z_aload_n (pc := 214) hX 0 dL_law_214 rfl rfl ?_
          refine z_iload_n (pc := 215) hX 3 dL_law_215 rfl rfl ?_
          refine z_iconst (pc := 216) hX dL_law_216 ?_
          refine z_iadd (pc := 217) hX dL_law_217 ?_
          refine z_iald (pc := 218) hX dL_law_218 (fun v24 => ?_)
          refine z_aload_n (pc := 219) hX 0 dL_law_219 rfl rfl ?_
          refine z_iload_n (pc := 220) hX 3 dL_law_220 rfl rfl ?_
          refine z_iconst (pc := 221) hX dL_law_221 ?_
          refine z_iadd (pc := 222) hX dL_law_222 ?_
          refine z_iald (pc := 223) hX dL_law_223 (fun v25 => ?_)
          refine z_aload_n (pc := 224) hX 0 dL_law_224 rfl rfl ?_
          refine z_iload_n (pc := 225) hX 3 dL_law_225 rfl rfl ?_
          refine z_iconst (pc := 226) hX dL_law_226 ?_
          refine z_iadd (pc := 227) hX dL_law_227 ?_
          refine z_iald (pc := 228) hX dL_law_228 (fun v26 => ?_)
          refine z_callV (n := 4) (st := [(0, v20)]) (pc := 229) hX zc12 rfl (fun _ => (mX12_rate _ hE _ _ _ _ _ _ _)) ⟨wd1166, wd67, wd1169, ⟨by decide, by decide, by decide⟩, by decide⟩ rfl wd1167 wd1168 rfl rfl (by decide) (Nat.le_of_ble_eq_true rfl) dL_law_229 (fun v27 s28 r29 => ?_)
          show Zj X G 232 [(0, (2, u8)), (1, (2, u9)), (2, (2, u10)), (3, (0, x11))] [(0, v27), (0, v20)] _ _
          refine z_icmp_eq (pc := 232) hX 1521 dL_law_232 (by decide) (fun h30 => ?_) (fun h30 => ?_)
          · exact hK1521 _
          · refine z_iconst (pc := 235) hX dL_law_235 ?_
            exact z_none
        · refine z_eq (if_neg h15) ?_
          by_cases h31 : (iAnd v14 63) = 1
          · refine z_eq (if_pos h31) ?_
            refine z_tswIn (pc := 33) hX 237 dL_law_33 h31 (by decide) (by decide) rfl (by decide) ?_
            refine z_aload_n (pc := 237) hX 1 dL_law_237 rfl rfl ?_
            refine z_aload_n (pc := 238) hX 0 dL_law_238 rfl rfl ?_
            refine z_iload_n (pc := 239) hX 3 dL_law_239 rfl rfl ?_
            refine z_iconst (pc := 240) hX dL_law_240 ?_
            refine z_iadd (pc := 241) hX dL_law_241 ?_
            refine z_iald (pc := 242) hX dL_law_242 (fun v32 => ?_)
            refine z_aload_n (pc := 243) hX 0 dL_law_243 rfl rfl ?_
            refine z_iload_n (pc := 244) hX 3 dL_law_244 rfl rfl ?_
            refine z_iconst (pc := 245) hX dL_law_245 ?_
            refine z_iadd (pc := 246) hX dL_law_246 ?_
            refine z_iald (pc := 247) hX dL_law_247 (fun v33 => ?_)
            refine z_aload_n (pc := 248) hX 0 dL_law_248 rfl rfl ?_
            refine z_iload_n (pc := 249) hX 3 dL_law_249 rfl rfl ?_
            refine z_iconst (pc := 250) hX dL_law_250 ?_
            refine z_iadd (pc := 251) hX dL_law_251 ?_
            refine z_iald (pc := 252) hX dL_law_252 (fun v34 => ?_)
            refine z_callV (n := 3) (st := []) (pc := 253) hX zc11 rfl (fun _ => (mX11_toll _ hE _ _ _ _ _ _)) ⟨wd335, wd61, wd338, ⟨by decide, by decide, by decide⟩, by decide⟩ rfl wd336 wd337 rfl rfl (by decide) (Nat.le_of_ble_eq_true rfl) dL_law_253 (fun v35 s36 r37 => ?_)
            show Zj X G 256 [(0, (2, u8)), (1, (2, u9)), (2, (2, u10)), (3, (0, x11))] [(0, v35)] _ _
            refine z_aload_n (pc := 256) hX 2 dL_law_256 rfl rfl ?_
            refine z_aload_n (pc := 257) hX 0 dL_law_257 rfl rfl ?_
            refine z_iload_n (pc := 258) hX 3 dL_law_258 rfl rfl ?_
            refine z_iconst (pc := 259) hX dL_law_259 ?_
            refine z_iadd (pc := 260) hX dL_law_260 ?_
            refine z_iald (pc := 261) hX dL_law_261 (fun v38 => ?_)
            refine z_aload_n (pc := 262) hX 0 dL_law_262 rfl rfl ?_
            refine z_iload_n (pc := 263) hX 3 dL_law_263 rfl rfl ?_
            refine z_iconst (pc := 264) hX dL_law_264 ?_
            refine z_iadd (pc := 265) hX dL_law_265 ?_
            refine z_iald (pc := 266) hX dL_law_266 (fun v39 => ?_)
            refine z_aload_n (pc := 267) hX 0 dL_law_267 rfl rfl ?_
            refine z_iload_n (pc := 268) hX 3 dL_law_268 rfl rfl ?_
            refine z_iconst (pc := 269) hX dL_law_269 ?_
            refine z_iadd (pc := 270) hX dL_law_270 ?_
            refine z_iald (pc := 271) hX dL_law_271 (fun v40 => ?_)
            refine z_callV (n := 3) (st := [(0, v35)]) (pc := 272) hX zc12 rfl (fun _ => (mX12_toll _ hE _ _ _ _ _ _)) ⟨wd1176, wd67, wd1179, ⟨by decide, by decide, by decide⟩, by decide⟩ rfl wd1177 wd1178 rfl rfl (by decide) (Nat.le_of_ble_eq_true rfl) dL_law_272 (fun v41 s42 r43 => ?_)
            show Zj X G 275 [(0, (2, u8)), (1, (2, u9)), (2, (2, u10)), (3, (0, x11))] [(0, v41), (0, v35)] _ _
            refine z_icmp_eq (pc := 275) hX 1521 dL_law_275 (by decide) (fun h44 => ?_) (fun h44 => ?_)
            · exact hK1521 _
            · refine z_iconst (pc := 278) hX dL_law_278 ?_
              exact z_none
          · refine z_eq (if_neg h31) ?_
            by_cases h45 : (iAnd v14 63) = 2
            · refine z_eq (if_pos h45) ?_
              refine z_tswIn (pc := 33) hX 280 dL_law_33 h45 (by decide) (by decide) rfl (by decide) ?_
              refine z_aload_n (pc := 280) hX 1 dL_law_280 rfl rfl ?_
              refine z_aload_n (pc := 281) hX 0 dL_law_281 rfl rfl ?_
              refine z_iload_n (pc := 282) hX 3 dL_law_282 rfl rfl ?_
              refine z_iconst (pc := 283) hX dL_law_283 ?_
              refine z_iadd (pc := 284) hX dL_law_284 ?_
              refine z_iald (pc := 285) hX dL_law_285 (fun v46 => ?_)
              refine z_aload_n (pc := 286) hX 0 dL_law_286 rfl rfl ?_
              refine z_iload_n (pc := 287) hX 3 dL_law_287 rfl rfl ?_
              refine z_iconst (pc := 288) hX dL_law_288 ?_
              refine z_iadd (pc := 289) hX dL_law_289 ?_
              refine z_iald (pc := 290) hX dL_law_290 (fun v47 => ?_)
              refine z_aload_n (pc := 291) hX 0 dL_law_291 rfl rfl ?_
              refine z_iload_n (pc := 292) hX 3 dL_law_292 rfl rfl ?_
              refine z_iconst (pc := 293) hX dL_law_293 ?_
              refine z_iadd (pc := 294) hX dL_law_294 ?_
              refine z_iald (pc := 295) hX dL_law_295 (fun v48 => ?_)
              refine z_aload_n (pc := 296) hX 0 dL_law_296 rfl rfl ?_
              refine z_iload_n (pc := 297) hX 3 dL_law_297 rfl rfl ?_
              refine z_iconst (pc := 298) hX dL_law_298 ?_
              refine z_iadd (pc := 299) hX dL_law_299 ?_
              refine z_iald (pc := 300) hX dL_law_300 (fun v49 => ?_)
              refine z_callV (n := 4) (st := []) (pc := 301) hX zc11 rfl (fun _ => (mX11_sort _ hE _ _ _ _ _ _ _)) ⟨wd339, wd61, wd342, ⟨by decide, by decide, by decide⟩, by decide⟩ rfl wd340 wd341 rfl rfl (by decide) (Nat.le_of_ble_eq_true rfl) dL_law_301 (fun v50 s51 r52 => ?_)
              show Zj X G 304 [(0, (2, u8)), (1, (2, u9)), (2, (2, u10)), (3, (0, x11))] [(0, v50)] _ _
              refine z_aload_n (pc := 304) hX 2 dL_law_304 rfl rfl ?_
              refine z_aload_n (pc := 305) hX 0 dL_law_305 rfl rfl ?_
              refine z_iload_n (pc := 306) hX 3 dL_law_306 rfl rfl ?_
              refine z_iconst (pc := 307) hX dL_law_307 ?_
              refine z_iadd (pc := 308) hX dL_law_308 ?_
              refine z_iald (pc := 309) hX dL_law_309 (fun v53 => ?_)
              refine z_aload_n (pc := 310) hX 0 dL_law_310 rfl rfl ?_
              refine z_iload_n (pc := 311) hX 3 dL_law_311 rfl rfl ?_
              refine z_iconst (pc := 312) hX dL_law_312 ?_
              refine z_iadd (pc := 313) hX dL_law_313 ?_
              refine z_iald (pc := 314) hX dL_law_314 (fun v54 => ?_)
              refine z_aload_n (pc := 315) hX 0 dL_law_315 rfl rfl ?_
              refine z_iload_n (pc := 316) hX 3 dL_law_316 rfl rfl ?_
              refine z_iconst (pc := 317) hX dL_law_317 ?_
              refine z_iadd (pc := 318) hX dL_law_318 ?_
              refine z_iald (pc := 319) hX dL_law_319 (fun v55 => ?_)
              refine z_aload_n (pc := 320) hX 0 dL_law_320 rfl rfl ?_
              refine z_iload_n (pc := 321) hX 3 dL_law_321 rfl rfl ?_
              refine z_iconst (pc := 322) hX dL_law_322 ?_
              refine z_iadd (pc := 323) hX dL_law_323 ?_
              refine z_iald (pc := 324) hX dL_law_324 (fun v56 => ?_)
              refine z_callV (n := 4) (st := [(0, v50)]) (pc := 325) hX zc12 rfl (fun _ => (mX12_sort _ hE _ _ _ _ _ _ _)) ⟨wd1180, wd67, wd1183, ⟨by decide, by decide, by decide⟩, by decide⟩ rfl wd1181 wd1182 rfl rfl (by decide) (Nat.le_of_ble_eq_true rfl) dL_law_325 (fun v57 s58 r59 => ?_)
              show Zj X G 328 [(0, (2, u8)), (1, (2, u9)), (2, (2, u10)), (3, (0, x11))] [(0, v57), (0, v50)] _ _
              refine z_icmp_eq (pc := 328) hX 1521 dL_law_328 (by decide) (fun h60 => ?_) (fun h60 => ?_)
              · exact hK1521 _
              · refine z_iconst (pc := 331) hX dL_law_331 ?_
                exact z_none
            · refine z_eq (if_neg h45) ?_
              by_cases h61 : (iAnd v14 63) = 3
              · refine z_eq (if_pos h61) ?_
                refine z_tswIn (pc := 33) hX 333 dL_law_33 h61 (by decide) (by decide) rfl (by decide) ?_
                refine z_aload_n (pc := 333) hX 1 dL_law_333 rfl rfl ?_
                refine z_aload_n (pc := 334) hX 0 dL_law_334 rfl rfl ?_
                refine z_iload_n (pc := 335) hX 3 dL_law_335 rfl rfl ?_
                refine z_iconst (pc := 336) hX dL_law_336 ?_
                refine z_iadd (pc := 337) hX dL_law_337 ?_
                refine z_iald (pc := 338) hX dL_law_338 (fun v62 => ?_)
                refine z_callV (n := 1) (st := []) (pc := 339) hX zc11 rfl (fun _ => (mX11_cart _ hE _ _ _ _)) ⟨wd343, wd61, wd346, ⟨by decide, by decide, by decide⟩, by decide⟩ rfl wd344 wd345 rfl rfl (by decide) (Nat.le_of_ble_eq_true rfl) dL_law_339 (fun v63 s64 r65 => ?_)
                show Zj X G 342 [(0, (2, u8)), (1, (2, u9)), (2, (2, u10)), (3, (0, x11))] [(0, v63)] _ _
                refine z_aload_n (pc := 342) hX 2 dL_law_342 rfl rfl ?_
                refine z_aload_n (pc := 343) hX 0 dL_law_343 rfl rfl ?_
                refine z_iload_n (pc := 344) hX 3 dL_law_344 rfl rfl ?_
                refine z_iconst (pc := 345) hX dL_law_345 ?_
                refine z_iadd (pc := 346) hX dL_law_346 ?_
                refine z_iald (pc := 347) hX dL_law_347 (fun v66 => ?_)
                refine z_callV (n := 1) (st := [(0, v63)]) (pc := 348) hX zc12 rfl (fun _ => (mX12_cart _ hE _ _ _ _)) ⟨wd1184, wd67, wd1187, ⟨by decide, by decide, by decide⟩, by decide⟩ rfl wd1185 wd1186 rfl rfl (by decide) (Nat.le_of_ble_eq_true rfl) dL_law_348 (fun v67 s68 r69 => ?_)
                show Zj X G 351 [(0, (2, u8)), (1, (2, u9)), (2, (2, u10)), (3, (0, x11))] [(0, v67), (0, v63)] _ _
                refine z_icmp_eq (pc := 351) hX 1521 dL_law_351 (by decide) (fun h70 => ?_) (fun h70 => ?_)
                · exact hK1521 _
                · refine z_iconst (pc := 354) hX dL_law_354 ?_
                  exact z_none
              · refine z_eq (if_neg h61) ?_
                by_cases h71 : (iAnd v14 63) = 4
                · refine z_eq (if_pos h71) ?_
                  refine z_tswIn (pc := 33) hX 356 dL_law_33 h71 (by decide) (by decide) rfl (by decide) ?_
                  refine z_aload_n (pc := 356) hX 1 dL_law_356 rfl rfl ?_
                  refine z_aload_n (pc := 357) hX 0 dL_law_357 rfl rfl ?_
                  refine z_iload_n (pc := 358) hX 3 dL_law_358 rfl rfl ?_
                  refine z_iconst (pc := 359) hX dL_law_359 ?_
                  refine z_iadd (pc := 360) hX dL_law_360 ?_
                  refine z_iald (pc := 361) hX dL_law_361 (fun v72 => ?_)
                  refine z_aload_n (pc := 362) hX 0 dL_law_362 rfl rfl ?_
                  refine z_iload_n (pc := 363) hX 3 dL_law_363 rfl rfl ?_
                  refine z_iconst (pc := 364) hX dL_law_364 ?_
                  refine z_iadd (pc := 365) hX dL_law_365 ?_
                  refine z_iald (pc := 366) hX dL_law_366 (fun v73 => ?_)
                  refine z_callV (n := 2) (st := []) (pc := 367) hX zc11 rfl (fun _ => (mX11_wishes _ hE _ _ _ _ _)) ⟨wd351, wd61, wd354, ⟨by decide, by decide, by decide⟩, by decide⟩ rfl wd352 wd353 rfl rfl (by decide) (Nat.le_of_ble_eq_true rfl) dL_law_367 (fun v74 s75 r76 => ?_)
                  show Zj X G 370 [(0, (2, u8)), (1, (2, u9)), (2, (2, u10)), (3, (0, x11))] [(0, v74)] _ _
                  refine z_aload_n (pc := 370) hX 2 dL_law_370 rfl rfl ?_
                  refine z_aload_n (pc := 371) hX 0 dL_law_371 rfl rfl ?_
                  refine z_iload_n (pc := 372) hX 3 dL_law_372 rfl rfl ?_
                  refine z_iconst (pc := 373) hX dL_law_373 ?_
                  refine z_iadd (pc := 374) hX dL_law_374 ?_
                  refine z_iald (pc := 375) hX dL_law_375 (fun v77 => ?_)
                  refine z_aload_n (pc := 376) hX 0 dL_law_376 rfl rfl ?_
                  refine z_iload_n (pc := 377) hX 3 dL_law_377 rfl rfl ?_
                  refine z_iconst (pc := 378) hX dL_law_378 ?_
                  refine z_iadd (pc := 379) hX dL_law_379 ?_
                  refine z_iald (pc := 380) hX dL_law_380 (fun v78 => ?_)
                  refine z_callV (n := 2) (st := [(0, v74)]) (pc := 381) hX zc12 rfl (fun _ => (mX12_wishes _ hE _ _ _ _ _)) ⟨wd1192, wd67, wd1195, ⟨by decide, by decide, by decide⟩, by decide⟩ rfl wd1193 wd1194 rfl rfl (by decide) (Nat.le_of_ble_eq_true rfl) dL_law_381 (fun v79 s80 r81 => ?_)
                  show Zj X G 384 [(0, (2, u8)), (1, (2, u9)), (2, (2, u10)), (3, (0, x11))] [(0, v79), (0, v74)] _ _
                  refine z_icmp_eq (pc := 384) hX 1521 dL_law_384 (by decide) (fun h82 => ?_) (fun h82 => ?_)
                  · exact hK1521 _
                  · refine z_iconst (pc := 387) hX dL_law_387 ?_
                    exact z_none
                · refine z_eq (if_neg h71) ?_
                  by_cases h83 : (iAnd v14 63) = 5
                  · refine z_eq (if_pos h83) ?_
                    refine z_tswIn (pc := 33) hX 389 dL_law_33 h83 (by decide) (by decide) rfl (by decide) ?_
                    refine z_aload_n (pc := 389) hX 1 dL_law_389 rfl rfl ?_
                    refine z_aload_n (pc := 390) hX 0 dL_law_390 rfl rfl ?_
                    refine z_iload_n (pc := 391) hX 3 dL_law_391 rfl rfl ?_
                    refine z_iconst (pc := 392) hX dL_law_392 ?_
                    refine z_iadd (pc := 393) hX dL_law_393 ?_
                    refine z_iald (pc := 394) hX dL_law_394 (fun v84 => ?_)
                    refine z_aload_n (pc := 395) hX 0 dL_law_395 rfl rfl ?_
                    refine z_iload_n (pc := 396) hX 3 dL_law_396 rfl rfl ?_
                    refine z_iconst (pc := 397) hX dL_law_397 ?_
                    refine z_iadd (pc := 398) hX dL_law_398 ?_
                    refine z_iald (pc := 399) hX dL_law_399 (fun v85 => ?_)
                    refine z_aload_n (pc := 400) hX 0 dL_law_400 rfl rfl ?_
                    refine z_iload_n (pc := 401) hX 3 dL_law_401 rfl rfl ?_
                    refine z_iconst (pc := 402) hX dL_law_402 ?_
                    refine z_iadd (pc := 403) hX dL_law_403 ?_
                    refine z_iald (pc := 404) hX dL_law_404 (fun v86 => ?_)
                    refine z_callV (n := 3) (st := []) (pc := 405) hX zc11 rfl (fun _ => (mX11_gateTold _ hE _ _ _ _ _ _)) ⟨wd355, wd61, wd358, ⟨by decide, by decide, by decide⟩, by decide⟩ rfl wd356 wd357 rfl rfl (by decide) (Nat.le_of_ble_eq_true rfl) dL_law_405 (fun v87 s88 r89 => ?_)
                    show Zj X G 408 [(0, (2, u8)), (1, (2, u9)), (2, (2, u10)), (3, (0, x11))] [(0, v87)] _ _
                    refine z_aload_n (pc := 408) hX 2 dL_law_408 rfl rfl ?_
                    refine z_aload_n (pc := 409) hX 0 dL_law_409 rfl rfl ?_
                    refine z_iload_n (pc := 410) hX 3 dL_law_410 rfl rfl ?_
                    refine z_iconst (pc := 411) hX dL_law_411 ?_
                    refine z_iadd (pc := 412) hX dL_law_412 ?_
                    refine z_iald (pc := 413) hX dL_law_413 (fun v90 => ?_)
                    refine z_aload_n (pc := 414) hX 0 dL_law_414 rfl rfl ?_
                    refine z_iload_n (pc := 415) hX 3 dL_law_415 rfl rfl ?_
                    refine z_iconst (pc := 416) hX dL_law_416 ?_
                    refine z_iadd (pc := 417) hX dL_law_417 ?_
                    refine z_iald (pc := 418) hX dL_law_418 (fun v91 => ?_)
                    refine z_aload_n (pc := 419) hX 0 dL_law_419 rfl rfl ?_
                    refine z_iload_n (pc := 420) hX 3 dL_law_420 rfl rfl ?_
                    refine z_iconst (pc := 421) hX dL_law_421 ?_
                    refine z_iadd (pc := 422) hX dL_law_422 ?_
                    refine z_iald (pc := 423) hX dL_law_423 (fun v92 => ?_)
                    refine z_callV (n := 3) (st := [(0, v87)]) (pc := 424) hX zc12 rfl (fun _ => (mX12_gateTold _ hE _ _ _ _ _ _)) ⟨wd1196, wd67, wd1199, ⟨by decide, by decide, by decide⟩, by decide⟩ rfl wd1197 wd1198 rfl rfl (by decide) (Nat.le_of_ble_eq_true rfl) dL_law_424 (fun v93 s94 r95 => ?_)
                    show Zj X G 427 [(0, (2, u8)), (1, (2, u9)), (2, (2, u10)), (3, (0, x11))] [(0, v93), (0, v87)] _ _
                    refine z_icmp_eq (pc := 427) hX 1521 dL_law_427 (by decide) (fun h96 => ?_) (fun h96 => ?_)
                    · exact hK1521 _
                    · refine z_iconst (pc := 430) hX dL_law_430 ?_
                      exact z_none
                  · refine z_eq (if_neg h83) ?_
                    by_cases h97 : (iAnd v14 63) = 6
                    · refine z_eq (if_pos h97) ?_
                      refine z_tswIn (pc := 33) hX 432 dL_law_33 h97 (by decide) (by decide) rfl (by decide) ?_
                      refine z_aload_n (pc := 432) hX 1 dL_law_432 rfl rfl ?_
                      refine z_aload_n (pc := 433) hX 0 dL_law_433 rfl rfl ?_
                      refine z_iload_n (pc := 434) hX 3 dL_law_434 rfl rfl ?_
                      refine z_iconst (pc := 435) hX dL_law_435 ?_
                      refine z_iadd (pc := 436) hX dL_law_436 ?_
                      refine z_iald (pc := 437) hX dL_law_437 (fun v98 => ?_)
                      refine z_aload_n (pc := 438) hX 0 dL_law_438 rfl rfl ?_
                      refine z_iload_n (pc := 439) hX 3 dL_law_439 rfl rfl ?_
                      refine z_iconst (pc := 440) hX dL_law_440 ?_
                      refine z_iadd (pc := 441) hX dL_law_441 ?_
                      refine z_iald (pc := 442) hX dL_law_442 (fun v99 => ?_)
                      refine z_callV (n := 2) (st := []) (pc := 443) hX zc11 rfl (fun _ => (mX11_sortTold _ hE _ _ _ _ _)) ⟨wd359, wd61, wd362, ⟨by decide, by decide, by decide⟩, by decide⟩ rfl wd360 wd361 rfl rfl (by decide) (Nat.le_of_ble_eq_true rfl) dL_law_443 (fun v100 s101 r102 => ?_)
                      show Zj X G 446 [(0, (2, u8)), (1, (2, u9)), (2, (2, u10)), (3, (0, x11))] [(0, v100)] _ _
                      refine z_aload_n (pc := 446) hX 2 dL_law_446 rfl rfl ?_
                      refine z_aload_n (pc := 447) hX 0 dL_law_447 rfl rfl ?_
                      refine z_iload_n (pc := 448) hX 3 dL_law_448 rfl rfl ?_
                      refine z_iconst (pc := 449) hX dL_law_449 ?_
                      refine z_iadd (pc := 450) hX dL_law_450 ?_
                      refine z_iald (pc := 451) hX dL_law_451 (fun v103 => ?_)
                      refine z_aload_n (pc := 452) hX 0 dL_law_452 rfl rfl ?_
                      refine z_iload_n (pc := 453) hX 3 dL_law_453 rfl rfl ?_
                      refine z_iconst (pc := 454) hX dL_law_454 ?_
                      refine z_iadd (pc := 455) hX dL_law_455 ?_
                      refine z_iald (pc := 456) hX dL_law_456 (fun v104 => ?_)
                      refine z_callV (n := 2) (st := [(0, v100)]) (pc := 457) hX zc12 rfl (fun _ => (mX12_sortTold _ hE _ _ _ _ _)) ⟨wd1200, wd67, wd1203, ⟨by decide, by decide, by decide⟩, by decide⟩ rfl wd1201 wd1202 rfl rfl (by decide) (Nat.le_of_ble_eq_true rfl) dL_law_457 (fun v105 s106 r107 => ?_)
                      show Zj X G 460 [(0, (2, u8)), (1, (2, u9)), (2, (2, u10)), (3, (0, x11))] [(0, v105), (0, v100)] _ _
                      refine z_icmp_eq (pc := 460) hX 1521 dL_law_460 (by decide) (fun h108 => ?_) (fun h108 => ?_)
                      · exact hK1521 _
                      · refine z_iconst (pc := 463) hX dL_law_463 ?_
                        exact z_none
                    · refine z_eq (if_neg h97) ?_
                      by_cases h109 : (iAnd v14 63) = 7
                      · refine z_eq (if_pos h109) ?_
                        refine z_tswIn (pc := 33) hX 465 dL_law_33 h109 (by decide) (by decide) rfl (by decide) ?_
                        refine z_aload_n (pc := 465) hX 1 dL_law_465 rfl rfl ?_
                        refine z_aload_n (pc := 466) hX 0 dL_law_466 rfl rfl ?_
                        refine z_iload_n (pc := 467) hX 3 dL_law_467 rfl rfl ?_
                        refine z_iconst (pc := 468) hX dL_law_468 ?_
                        refine z_iadd (pc := 469) hX dL_law_469 ?_
                        refine z_iald (pc := 470) hX dL_law_470 (fun v110 => ?_)
                        refine z_i2lR (pc := 471) hX dL_law_471 ?_
                        refine z_bipush (pc := 472) hX dL_law_472 ?_
                        refine z_lshl (pc := 474) hX dL_law_474 ?_
                        refine z_aload_n (pc := 475) hX 0 dL_law_475 rfl rfl ?_
                        refine z_iload_n (pc := 476) hX 3 dL_law_476 rfl rfl ?_
                        refine z_iconst (pc := 477) hX dL_law_477 ?_
                        refine z_iadd (pc := 478) hX dL_law_478 ?_
                        refine z_iald (pc := 479) hX dL_law_479 (fun v111 => ?_)
                        refine z_i2lR (pc := 480) hX dL_law_480 ?_
                        refine z_ldc2 (n := 4294967295) (pc := 481) hX dL_law_481 wd1443 (by decide) ?_
                        refine z_land (pc := 484) hX dL_law_484 ?_
                        refine z_lor (pc := 485) hX dL_law_485 ?_
                        refine z_aload_n (pc := 486) hX 0 dL_law_486 rfl rfl ?_
                        refine z_iload_n (pc := 487) hX 3 dL_law_487 rfl rfl ?_
                        refine z_iconst (pc := 488) hX dL_law_488 ?_
                        refine z_iadd (pc := 489) hX dL_law_489 ?_
                        refine z_iald (pc := 490) hX dL_law_490 (fun v112 => ?_)
                        refine z_callV (n := 2) (st := []) (pc := 491) hX zc11 rfl (fun _ => (mX11_feed _ hE _ _ _ _ _)) ⟨wd363, wd61, wd366, ⟨by decide, by decide, by decide⟩, by decide⟩ rfl wd364 wd365 rfl rfl (by decide) (Nat.le_of_ble_eq_true rfl) dL_law_491 (fun v113 s114 r115 => ?_)
                        show Zj X G 494 [(0, (2, u8)), (1, (2, u9)), (2, (2, u10)), (3, (0, x11))] [(0, v113)] _ _
                        refine z_aload_n (pc := 494) hX 2 dL_law_494 rfl rfl ?_
                        refine z_aload_n (pc := 495) hX 0 dL_law_495 rfl rfl ?_
                        refine z_iload_n (pc := 496) hX 3 dL_law_496 rfl rfl ?_
                        refine z_iconst (pc := 497) hX dL_law_497 ?_
                        refine z_iadd (pc := 498) hX dL_law_498 ?_
                        refine z_iald (pc := 499) hX dL_law_499 (fun v116 => ?_)
                        refine z_i2lR (pc := 500) hX dL_law_500 ?_
                        refine z_bipush (pc := 501) hX dL_law_501 ?_
                        refine z_lshl (pc := 503) hX dL_law_503 ?_
                        refine z_aload_n (pc := 504) hX 0 dL_law_504 rfl rfl ?_
                        refine z_iload_n (pc := 505) hX 3 dL_law_505 rfl rfl ?_
                        refine z_iconst (pc := 506) hX dL_law_506 ?_
                        refine z_iadd (pc := 507) hX dL_law_507 ?_
                        refine z_iald (pc := 508) hX dL_law_508 (fun v117 => ?_)
                        refine z_i2lR (pc := 509) hX dL_law_509 ?_
                        refine z_ldc2 (n := 4294967295) (pc := 510) hX dL_law_510 wd1443 (by decide) ?_
                        refine z_land (pc := 513) hX dL_law_513 ?_
                        refine z_lor (pc := 514) hX dL_law_514 ?_
                        refine z_aload_n (pc := 515) hX 0 dL_law_515 rfl rfl ?_
                        refine z_iload_n (pc := 516) hX 3 dL_law_516 rfl rfl ?_
                        refine z_iconst (pc := 517) hX dL_law_517 ?_
                        refine z_iadd (pc := 518) hX dL_law_518 ?_
                        refine z_iald (pc := 519) hX dL_law_519 (fun v118 => ?_)
                        refine z_callV (n := 2) (st := [(0, v113)]) (pc := 520) hX zc12 rfl (fun _ => (mX12_feed _ hE _ _ _ _ _)) ⟨wd1204, wd67, wd1207, ⟨by decide, by decide, by decide⟩, by decide⟩ rfl wd1205 wd1206 rfl rfl (by decide) (Nat.le_of_ble_eq_true rfl) dL_law_520 (fun v119 s120 r121 => ?_)
                        show Zj X G 523 [(0, (2, u8)), (1, (2, u9)), (2, (2, u10)), (3, (0, x11))] [(0, v119), (0, v113)] _ _
                        refine z_icmp_eq (pc := 523) hX 1521 dL_law_523 (by decide) (fun h122 => ?_) (fun h122 => ?_)
                        · exact hK1521 _
                        · refine z_iconst (pc := 526) hX dL_law_526 ?_
                          exact z_none
                      · refine z_eq (if_neg h109) ?_
                        by_cases h123 : (iAnd v14 63) = 8
                        · refine z_eq (if_pos h123) ?_
                          refine z_tswIn (pc := 33) hX 528 dL_law_33 h123 (by decide) (by decide) rfl (by decide) ?_
                          refine z_aload_n (pc := 528) hX 1 dL_law_528 rfl rfl ?_
                          refine z_callV (n := 0) (st := []) (pc := 529) hX zc11 rfl (fun _ => (mX11_text _ hE _ _ _)) ⟨wd371, wd61, wd374, ⟨by decide, by decide, by decide⟩, by decide⟩ rfl wd372 wd373 rfl rfl (by decide) (Nat.le_of_ble_eq_true rfl) dL_law_529 (fun v124 s125 r126 => ?_)
                          show Zj X G 532 [(0, (2, u8)), (1, (2, u9)), (2, (2, u10)), (3, (0, x11))] [(0, v124)] _ _
                          refine z_aload_n (pc := 532) hX 2 dL_law_532 rfl rfl ?_
                          refine z_callV (n := 0) (st := [(0, v124)]) (pc := 533) hX zc12 rfl (fun _ => (mX12_text _ hE _ _ _)) ⟨wd1209, wd67, wd1212, ⟨by decide, by decide, by decide⟩, by decide⟩ rfl wd1210 wd1211 rfl rfl (by decide) (Nat.le_of_ble_eq_true rfl) dL_law_533 (fun v127 s128 r129 => ?_)
                          show Zj X G 536 [(0, (2, u8)), (1, (2, u9)), (2, (2, u10)), (3, (0, x11))] [(0, v127), (0, v124)] _ _
                          refine z_icmp_eq (pc := 536) hX 1521 dL_law_536 (by decide) (fun h130 => ?_) (fun h130 => ?_)
                          · exact hK1521 _
                          · refine z_iconst (pc := 539) hX dL_law_539 ?_
                            exact z_none
                        · refine z_eq (if_neg h123) ?_
                          by_cases h131 : (iAnd v14 63) = 9
                          · refine z_eq (if_pos h131) ?_
                            refine z_tswIn (pc := 33) hX 541 dL_law_33 h131 (by decide) (by decide) rfl (by decide) ?_
                            refine z_aload_n (pc := 541) hX 1 dL_law_541 rfl rfl ?_
                            refine z_aload_n (pc := 542) hX 0 dL_law_542 rfl rfl ?_
                            refine z_iload_n (pc := 543) hX 3 dL_law_543 rfl rfl ?_
                            refine z_iconst (pc := 544) hX dL_law_544 ?_
                            refine z_iadd (pc := 545) hX dL_law_545 ?_
                            refine z_iald (pc := 546) hX dL_law_546 (fun v132 => ?_)
                            refine z_callV (n := 1) (st := []) (pc := 547) hX zc11 rfl (fun _ => (mX11_force _ hE _ _ _ _)) ⟨wd585, wd61, wd588, ⟨by decide, by decide, by decide⟩, by decide⟩ rfl wd586 wd587 rfl rfl (by decide) (Nat.le_of_ble_eq_true rfl) dL_law_547 (fun v133 s134 r135 => ?_)
                            show Zj X G 550 [(0, (2, u8)), (1, (2, u9)), (2, (2, u10)), (3, (0, x11))] [(0, v133)] _ _
                            refine z_aload_n (pc := 550) hX 2 dL_law_550 rfl rfl ?_
                            refine z_aload_n (pc := 551) hX 0 dL_law_551 rfl rfl ?_
                            refine z_iload_n (pc := 552) hX 3 dL_law_552 rfl rfl ?_
                            refine z_iconst (pc := 553) hX dL_law_553 ?_
                            refine z_iadd (pc := 554) hX dL_law_554 ?_
                            refine z_iald (pc := 555) hX dL_law_555 (fun v136 => ?_)
                            refine z_callV (n := 1) (st := [(0, v133)]) (pc := 556) hX zc12 rfl (fun _ => (mX12_force _ hE _ _ _ _)) ⟨wd1253, wd67, wd1256, ⟨by decide, by decide, by decide⟩, by decide⟩ rfl wd1254 wd1255 rfl rfl (by decide) (Nat.le_of_ble_eq_true rfl) dL_law_556 (fun v137 s138 r139 => ?_)
                            show Zj X G 559 [(0, (2, u8)), (1, (2, u9)), (2, (2, u10)), (3, (0, x11))] [(0, v137), (0, v133)] _ _
                            refine z_icmp_eq (pc := 559) hX 1521 dL_law_559 (by decide) (fun h140 => ?_) (fun h140 => ?_)
                            · exact hK1521 _
                            · refine z_iconst (pc := 562) hX dL_law_562 ?_
                              exact z_none
                          · refine z_eq (if_neg h131) ?_
                            by_cases h141 : (iAnd v14 63) = 10
                            · refine z_eq (if_pos h141) ?_
                              refine z_tswIn (pc := 33) hX 564 dL_law_33 h141 (by decide) (by decide) rfl (by decide) ?_
                              refine z_aload_n (pc := 564) hX 1 dL_law_564 rfl rfl ?_
                              refine z_aload_n (pc := 565) hX 0 dL_law_565 rfl rfl ?_
                              refine z_iload_n (pc := 566) hX 3 dL_law_566 rfl rfl ?_
                              refine z_iconst (pc := 567) hX dL_law_567 ?_
                              refine z_iadd (pc := 568) hX dL_law_568 ?_
                              refine z_iald (pc := 569) hX dL_law_569 (fun v142 => ?_)
                              refine z_aload_n (pc := 570) hX 0 dL_law_570 rfl rfl ?_
                              refine z_iload_n (pc := 571) hX 3 dL_law_571 rfl rfl ?_
                              refine z_iconst (pc := 572) hX dL_law_572 ?_
                              refine z_iadd (pc := 573) hX dL_law_573 ?_
                              refine z_iald (pc := 574) hX dL_law_574 (fun v143 => ?_)
                              refine z_callV (n := 2) (st := []) (pc := 575) hX zc11 rfl (fun _ => (mX11_way _ hE _ _ _ _ _)) ⟨wd589, wd61, wd592, ⟨by decide, by decide, by decide⟩, by decide⟩ rfl wd590 wd591 rfl rfl (by decide) (Nat.le_of_ble_eq_true rfl) dL_law_575 (fun v144 s145 r146 => ?_)
                              show Zj X G 578 [(0, (2, u8)), (1, (2, u9)), (2, (2, u10)), (3, (0, x11))] [(0, v144)] _ _
                              refine z_aload_n (pc := 578) hX 2 dL_law_578 rfl rfl ?_
                              refine z_aload_n (pc := 579) hX 0 dL_law_579 rfl rfl ?_
                              refine z_iload_n (pc := 580) hX 3 dL_law_580 rfl rfl ?_
                              refine z_iconst (pc := 581) hX dL_law_581 ?_
                              refine z_iadd (pc := 582) hX dL_law_582 ?_
                              refine z_iald (pc := 583) hX dL_law_583 (fun v147 => ?_)
                              refine z_aload_n (pc := 584) hX 0 dL_law_584 rfl rfl ?_
                              refine z_iload_n (pc := 585) hX 3 dL_law_585 rfl rfl ?_
                              refine z_iconst (pc := 586) hX dL_law_586 ?_
                              refine z_iadd (pc := 587) hX dL_law_587 ?_
                              refine z_iald (pc := 588) hX dL_law_588 (fun v148 => ?_)
                              refine z_callV (n := 2) (st := [(0, v144)]) (pc := 589) hX zc12 rfl (fun _ => (mX12_way _ hE _ _ _ _ _)) ⟨wd1257, wd67, wd1260, ⟨by decide, by decide, by decide⟩, by decide⟩ rfl wd1258 wd1259 rfl rfl (by decide) (Nat.le_of_ble_eq_true rfl) dL_law_589 (fun v149 s150 r151 => ?_)
                              show Zj X G 592 [(0, (2, u8)), (1, (2, u9)), (2, (2, u10)), (3, (0, x11))] [(0, v149), (0, v144)] _ _
                              refine z_icmp_eq (pc := 592) hX 1521 dL_law_592 (by decide) (fun h152 => ?_) (fun h152 => ?_)
                              · exact hK1521 _
                              · refine z_iconst (pc := 595) hX dL_law_595 ?_
                                exact z_none
                            · refine z_eq (if_neg h141) ?_
                              by_cases h153 : (iAnd v14 63) = 11
                              · refine z_eq (if_pos h153) ?_
                                refine z_tswIn (pc := 33) hX 597 dL_law_33 h153 (by decide) (by decide) rfl (by decide) ?_
                                refine z_aload_n (pc := 597) hX 1 dL_law_597 rfl rfl ?_
                                refine z_aload_n (pc := 598) hX 0 dL_law_598 rfl rfl ?_
                                refine z_iload_n (pc := 599) hX 3 dL_law_599 rfl rfl ?_
                                refine z_iconst (pc := 600) hX dL_law_600 ?_
                                refine z_iadd (pc := 601) hX dL_law_601 ?_
                                refine z_iald (pc := 602) hX dL_law_602 (fun v154 => ?_)
                                refine z_aload_n (pc := 603) hX 0 dL_law_603 rfl rfl ?_
                                refine z_iload_n (pc := 604) hX 3 dL_law_604 rfl rfl ?_
                                refine z_iconst (pc := 605) hX dL_law_605 ?_
                                refine z_iadd (pc := 606) hX dL_law_606 ?_
                                refine z_iald (pc := 607) hX dL_law_607 (fun v155 => ?_)
                                refine z_callV (n := 2) (st := []) (pc := 608) hX zc11 rfl (fun _ => (mX11_wayTold _ hE _ _ _ _ _)) ⟨wd677, wd61, wd680, ⟨by decide, by decide, by decide⟩, by decide⟩ rfl wd678 wd679 rfl rfl (by decide) (Nat.le_of_ble_eq_true rfl) dL_law_608 (fun v156 s157 r158 => ?_)
                                show Zj X G 611 [(0, (2, u8)), (1, (2, u9)), (2, (2, u10)), (3, (0, x11))] [(0, v156)] _ _
                                refine z_aload_n (pc := 611) hX 2 dL_law_611 rfl rfl ?_
                                refine z_aload_n (pc := 612) hX 0 dL_law_612 rfl rfl ?_
                                refine z_iload_n (pc := 613) hX 3 dL_law_613 rfl rfl ?_
                                refine z_iconst (pc := 614) hX dL_law_614 ?_
                                refine z_iadd (pc := 615) hX dL_law_615 ?_
                                refine z_iald (pc := 616) hX dL_law_616 (fun v159 => ?_)
                                refine z_aload_n (pc := 617) hX 0 dL_law_617 rfl rfl ?_
                                refine z_iload_n (pc := 618) hX 3 dL_law_618 rfl rfl ?_
                                refine z_iconst (pc := 619) hX dL_law_619 ?_
                                refine z_iadd (pc := 620) hX dL_law_620 ?_
                                refine z_iald (pc := 621) hX dL_law_621 (fun v160 => ?_)
                                refine z_callV (n := 2) (st := [(0, v156)]) (pc := 622) hX zc12 rfl (fun _ => (mX12_wayTold _ hE _ _ _ _ _)) ⟨wd1264, wd67, wd1267, ⟨by decide, by decide, by decide⟩, by decide⟩ rfl wd1265 wd1266 rfl rfl (by decide) (Nat.le_of_ble_eq_true rfl) dL_law_622 (fun v161 s162 r163 => ?_)
                                show Zj X G 625 [(0, (2, u8)), (1, (2, u9)), (2, (2, u10)), (3, (0, x11))] [(0, v161), (0, v156)] _ _
                                refine z_icmp_eq (pc := 625) hX 1521 dL_law_625 (by decide) (fun h164 => ?_) (fun h164 => ?_)
                                · exact hK1521 _
                                · refine z_iconst (pc := 628) hX dL_law_628 ?_
                                  exact z_none
                              · refine z_eq (if_neg h153) ?_
                                by_cases h165 : (iAnd v14 63) = 12
                                · refine z_eq (if_pos h165) ?_
                                  refine z_tswIn (pc := 33) hX 630 dL_law_33 h165 (by decide) (by decide) rfl (by decide) ?_
                                  refine z_aload_n (pc := 630) hX 1 dL_law_630 rfl rfl ?_
                                  refine z_aload_n (pc := 631) hX 0 dL_law_631 rfl rfl ?_
                                  refine z_iload_n (pc := 632) hX 3 dL_law_632 rfl rfl ?_
                                  refine z_iconst (pc := 633) hX dL_law_633 ?_
                                  refine z_iadd (pc := 634) hX dL_law_634 ?_
                                  refine z_iald (pc := 635) hX dL_law_635 (fun v166 => ?_)
                                  refine z_aload_n (pc := 636) hX 0 dL_law_636 rfl rfl ?_
                                  refine z_iload_n (pc := 637) hX 3 dL_law_637 rfl rfl ?_
                                  refine z_iconst (pc := 638) hX dL_law_638 ?_
                                  refine z_iadd (pc := 639) hX dL_law_639 ?_
                                  refine z_iald (pc := 640) hX dL_law_640 (fun v167 => ?_)
                                  refine z_aload_n (pc := 641) hX 0 dL_law_641 rfl rfl ?_
                                  refine z_iload_n (pc := 642) hX 3 dL_law_642 rfl rfl ?_
                                  refine z_iconst (pc := 643) hX dL_law_643 ?_
                                  refine z_iadd (pc := 644) hX dL_law_644 ?_
                                  refine z_iald (pc := 645) hX dL_law_645 (fun v168 => ?_)
                                  refine z_callV (n := 3) (st := []) (pc := 646) hX zc11 rfl (fun _ => (mX11_set _ hE _ _ _ _ _ _)) ⟨wd715, wd61, wd718, ⟨by decide, by decide, by decide⟩, by decide⟩ rfl wd716 wd717 rfl rfl (by decide) (Nat.le_of_ble_eq_true rfl) dL_law_646 (fun v169 s170 r171 => ?_)
                                  show Zj X G 649 [(0, (2, u8)), (1, (2, u9)), (2, (2, u10)), (3, (0, x11))] [(0, v169)] _ _
                                  refine z_aload_n (pc := 649) hX 2 dL_law_649 rfl rfl ?_
                                  refine z_aload_n (pc := 650) hX 0 dL_law_650 rfl rfl ?_
                                  refine z_iload_n (pc := 651) hX 3 dL_law_651 rfl rfl ?_
                                  refine z_iconst (pc := 652) hX dL_law_652 ?_
                                  refine z_iadd (pc := 653) hX dL_law_653 ?_
                                  refine z_iald (pc := 654) hX dL_law_654 (fun v172 => ?_)
                                  refine z_aload_n (pc := 655) hX 0 dL_law_655 rfl rfl ?_
                                  refine z_iload_n (pc := 656) hX 3 dL_law_656 rfl rfl ?_
                                  refine z_iconst (pc := 657) hX dL_law_657 ?_
                                  refine z_iadd (pc := 658) hX dL_law_658 ?_
                                  refine z_iald (pc := 659) hX dL_law_659 (fun v173 => ?_)
                                  refine z_aload_n (pc := 660) hX 0 dL_law_660 rfl rfl ?_
                                  refine z_iload_n (pc := 661) hX 3 dL_law_661 rfl rfl ?_
                                  refine z_iconst (pc := 662) hX dL_law_662 ?_
                                  refine z_iadd (pc := 663) hX dL_law_663 ?_
                                  refine z_iald (pc := 664) hX dL_law_664 (fun v174 => ?_)
                                  refine z_callV (n := 3) (st := [(0, v169)]) (pc := 665) hX zc12 rfl (fun _ => (mX12_set _ hE _ _ _ _ _ _)) ⟨wd1276, wd67, wd1279, ⟨by decide, by decide, by decide⟩, by decide⟩ rfl wd1277 wd1278 rfl rfl (by decide) (Nat.le_of_ble_eq_true rfl) dL_law_665 (fun v175 s176 r177 => ?_)
                                  show Zj X G 668 [(0, (2, u8)), (1, (2, u9)), (2, (2, u10)), (3, (0, x11))] [(0, v175), (0, v169)] _ _
                                  refine z_icmp_eq (pc := 668) hX 1521 dL_law_668 (by decide) (fun h178 => ?_) (fun h178 => ?_)
                                  · exact hK1521 _
                                  · refine z_iconst (pc := 671) hX dL_law_671 ?_
                                    exact z_none
                                · refine z_eq (if_neg h165) ?_
                                  by_cases h179 : (iAnd v14 63) = 13
                                  · refine z_eq (if_pos h179) ?_
                                    refine z_tswIn (pc := 33) hX 673 dL_law_33 h179 (by decide) (by decide) rfl (by decide) ?_
                                    refine z_aload_n (pc := 673) hX 1 dL_law_673 rfl rfl ?_
                                    refine z_aload_n (pc := 674) hX 0 dL_law_674 rfl rfl ?_
                                    refine z_iload_n (pc := 675) hX 3 dL_law_675 rfl rfl ?_
                                    refine z_iconst (pc := 676) hX dL_law_676 ?_
                                    refine z_iadd (pc := 677) hX dL_law_677 ?_
                                    refine z_iald (pc := 678) hX dL_law_678 (fun v180 => ?_)
                                    refine z_aload_n (pc := 679) hX 0 dL_law_679 rfl rfl ?_
                                    refine z_iload_n (pc := 680) hX 3 dL_law_680 rfl rfl ?_
                                    refine z_iconst (pc := 681) hX dL_law_681 ?_
                                    refine z_iadd (pc := 682) hX dL_law_682 ?_
                                    refine z_iald (pc := 683) hX dL_law_683 (fun v181 => ?_)
                                    refine z_aload_n (pc := 684) hX 0 dL_law_684 rfl rfl ?_
                                    refine z_iload_n (pc := 685) hX 3 dL_law_685 rfl rfl ?_
                                    refine z_iconst (pc := 686) hX dL_law_686 ?_
                                    refine z_iadd (pc := 687) hX dL_law_687 ?_
                                    refine z_iald (pc := 688) hX dL_law_688 (fun v182 => ?_)
                                    refine z_callV (n := 3) (st := []) (pc := 689) hX zc11 rfl (fun _ => (mX11_of _ hE _ _ _ _ _ _)) ⟨wd719, wd61, wd722, ⟨by decide, by decide, by decide⟩, by decide⟩ rfl wd720 wd721 rfl rfl (by decide) (Nat.le_of_ble_eq_true rfl) dL_law_689 (fun v183 s184 r185 => ?_)
                                    show Zj X G 692 [(0, (2, u8)), (1, (2, u9)), (2, (2, u10)), (3, (0, x11))] [(0, v183)] _ _
                                    refine z_aload_n (pc := 692) hX 2 dL_law_692 rfl rfl ?_
                                    refine z_aload_n (pc := 693) hX 0 dL_law_693 rfl rfl ?_
                                    refine z_iload_n (pc := 694) hX 3 dL_law_694 rfl rfl ?_
                                    refine z_iconst (pc := 695) hX dL_law_695 ?_
                                    refine z_iadd (pc := 696) hX dL_law_696 ?_
                                    refine z_iald (pc := 697) hX dL_law_697 (fun v186 => ?_)
                                    refine z_aload_n (pc := 698) hX 0 dL_law_698 rfl rfl ?_
                                    refine z_iload_n (pc := 699) hX 3 dL_law_699 rfl rfl ?_
                                    refine z_iconst (pc := 700) hX dL_law_700 ?_
                                    refine z_iadd (pc := 701) hX dL_law_701 ?_
                                    refine z_iald (pc := 702) hX dL_law_702 (fun v187 => ?_)
                                    refine z_aload_n (pc := 703) hX 0 dL_law_703 rfl rfl ?_
                                    refine z_iload_n (pc := 704) hX 3 dL_law_704 rfl rfl ?_
                                    refine z_iconst (pc := 705) hX dL_law_705 ?_
                                    refine z_iadd (pc := 706) hX dL_law_706 ?_
                                    refine z_iald (pc := 707) hX dL_law_707 (fun v188 => ?_)
                                    refine z_callV (n := 3) (st := [(0, v183)]) (pc := 708) hX zc12 rfl (fun _ => (mX12_of _ hE _ _ _ _ _ _)) ⟨wd1280, wd67, wd1283, ⟨by decide, by decide, by decide⟩, by decide⟩ rfl wd1281 wd1282 rfl rfl (by decide) (Nat.le_of_ble_eq_true rfl) dL_law_708 (fun v189 s190 r191 => ?_)
                                    show Zj X G 711 [(0, (2, u8)), (1, (2, u9)), (2, (2, u10)), (3, (0, x11))] [(0, v189), (0, v183)] _ _
                                    refine z_icmp_eq (pc := 711) hX 1521 dL_law_711 (by decide) (fun h192 => ?_) (fun h192 => ?_)
                                    · exact hK1521 _
                                    · refine z_iconst (pc := 714) hX dL_law_714 ?_
                                      exact z_none
                                  · refine z_eq (if_neg h179) ?_
                                    by_cases h193 : (iAnd v14 63) = 14
                                    · refine z_eq (if_pos h193) ?_
                                      refine z_tswIn (pc := 33) hX 716 dL_law_33 h193 (by decide) (by decide) rfl (by decide) ?_
                                      refine z_aload_n (pc := 716) hX 1 dL_law_716 rfl rfl ?_
                                      refine z_aload_n (pc := 717) hX 0 dL_law_717 rfl rfl ?_
                                      refine z_iload_n (pc := 718) hX 3 dL_law_718 rfl rfl ?_
                                      refine z_iconst (pc := 719) hX dL_law_719 ?_
                                      refine z_iadd (pc := 720) hX dL_law_720 ?_
                                      refine z_iald (pc := 721) hX dL_law_721 (fun v194 => ?_)
                                      refine z_aload_n (pc := 722) hX 0 dL_law_722 rfl rfl ?_
                                      refine z_iload_n (pc := 723) hX 3 dL_law_723 rfl rfl ?_
                                      refine z_iconst (pc := 724) hX dL_law_724 ?_
                                      refine z_iadd (pc := 725) hX dL_law_725 ?_
                                      refine z_iald (pc := 726) hX dL_law_726 (fun v195 => ?_)
                                      refine z_aload_n (pc := 727) hX 0 dL_law_727 rfl rfl ?_
                                      refine z_iload_n (pc := 728) hX 3 dL_law_728 rfl rfl ?_
                                      refine z_iconst (pc := 729) hX dL_law_729 ?_
                                      refine z_iadd (pc := 730) hX dL_law_730 ?_
                                      refine z_iald (pc := 731) hX dL_law_731 (fun v196 => ?_)
                                      refine z_callV (n := 3) (st := []) (pc := 732) hX zc11 rfl (fun _ => (mX11_line _ hE _ _ _ _ _ _)) ⟨wd830, wd61, wd833, ⟨by decide, by decide, by decide⟩, by decide⟩ rfl wd831 wd832 rfl rfl (by decide) (Nat.le_of_ble_eq_true rfl) dL_law_732 (fun v197 s198 r199 => ?_)
                                      show Zj X G 735 [(0, (2, u8)), (1, (2, u9)), (2, (2, u10)), (3, (0, x11))] [(0, v197)] _ _
                                      refine z_aload_n (pc := 735) hX 2 dL_law_735 rfl rfl ?_
                                      refine z_aload_n (pc := 736) hX 0 dL_law_736 rfl rfl ?_
                                      refine z_iload_n (pc := 737) hX 3 dL_law_737 rfl rfl ?_
                                      refine z_iconst (pc := 738) hX dL_law_738 ?_
                                      refine z_iadd (pc := 739) hX dL_law_739 ?_
                                      refine z_iald (pc := 740) hX dL_law_740 (fun v200 => ?_)
                                      refine z_aload_n (pc := 741) hX 0 dL_law_741 rfl rfl ?_
                                      refine z_iload_n (pc := 742) hX 3 dL_law_742 rfl rfl ?_
                                      refine z_iconst (pc := 743) hX dL_law_743 ?_
                                      refine z_iadd (pc := 744) hX dL_law_744 ?_
                                      refine z_iald (pc := 745) hX dL_law_745 (fun v201 => ?_)
                                      refine z_aload_n (pc := 746) hX 0 dL_law_746 rfl rfl ?_
                                      refine z_iload_n (pc := 747) hX 3 dL_law_747 rfl rfl ?_
                                      refine z_iconst (pc := 748) hX dL_law_748 ?_
                                      refine z_iadd (pc := 749) hX dL_law_749 ?_
                                      refine z_iald (pc := 750) hX dL_law_750 (fun v202 => ?_)
                                      refine z_callV (n := 3) (st := [(0, v197)]) (pc := 751) hX zc12 rfl (fun _ => (mX12_line _ hE _ _ _ _ _ _)) ⟨wd1326, wd67, wd1329, ⟨by decide, by decide, by decide⟩, by decide⟩ rfl wd1327 wd1328 rfl rfl (by decide) (Nat.le_of_ble_eq_true rfl) dL_law_751 (fun v203 s204 r205 => ?_)
                                      show Zj X G 754 [(0, (2, u8)), (1, (2, u9)), (2, (2, u10)), (3, (0, x11))] [(0, v203), (0, v197)] _ _
                                      refine z_icmp_eq (pc := 754) hX 1521 dL_law_754 (by decide) (fun h206 => ?_) (fun h206 => ?_)
                                      · exact hK1521 _
                                      · refine z_iconst (pc := 757) hX dL_law_757 ?_
                                        exact z_none
                                    · refine z_eq (if_neg h193) ?_
                                      by_cases h207 : (iAnd v14 63) = 15
                                      · refine z_eq (if_pos h207) ?_
                                        refine z_tswIn (pc := 33) hX 759 dL_law_33 h207 (by decide) (by decide) rfl (by decide) ?_
                                        refine z_aload_n (pc := 759) hX 1 dL_law_759 rfl rfl ?_
                                        refine z_aload_n (pc := 760) hX 0 dL_law_760 rfl rfl ?_
                                        refine z_iload_n (pc := 761) hX 3 dL_law_761 rfl rfl ?_
                                        refine z_iconst (pc := 762) hX dL_law_762 ?_
                                        refine z_iadd (pc := 763) hX dL_law_763 ?_
                                        refine z_iald (pc := 764) hX dL_law_764 (fun v208 => ?_)
                                        refine z_aload_n (pc := 765) hX 0 dL_law_765 rfl rfl ?_
                                        refine z_iload_n (pc := 766) hX 3 dL_law_766 rfl rfl ?_
                                        refine z_iconst (pc := 767) hX dL_law_767 ?_
                                        refine z_iadd (pc := 768) hX dL_law_768 ?_
                                        refine z_iald (pc := 769) hX dL_law_769 (fun v209 => ?_)
                                        refine z_callV (n := 2) (st := []) (pc := 770) hX zc11 rfl (fun _ => (mX11_passes _ hE _ _ _ _ _)) ⟨wd838, wd61, wd841, ⟨by decide, by decide, by decide⟩, by decide⟩ rfl wd839 wd840 rfl rfl (by decide) (Nat.le_of_ble_eq_true rfl) dL_law_770 (fun v210 s211 r212 => ?_)
                                        show Zj X G 773 [(0, (2, u8)), (1, (2, u9)), (2, (2, u10)), (3, (0, x11))] [(0, v210)] _ _
                                        refine z_aload_n (pc := 773) hX 2 dL_law_773 rfl rfl ?_
                                        refine z_aload_n (pc := 774) hX 0 dL_law_774 rfl rfl ?_
                                        refine z_iload_n (pc := 775) hX 3 dL_law_775 rfl rfl ?_
                                        refine z_iconst (pc := 776) hX dL_law_776 ?_
                                        refine z_iadd (pc := 777) hX dL_law_777 ?_
                                        refine z_iald (pc := 778) hX dL_law_778 (fun v213 => ?_)
                                        refine z_aload_n (pc := 779) hX 0 dL_law_779 rfl rfl ?_
                                        refine z_iload_n (pc := 780) hX 3 dL_law_780 rfl rfl ?_
                                        refine z_iconst (pc := 781) hX dL_law_781 ?_
                                        refine z_iadd (pc := 782) hX dL_law_782 ?_
                                        refine z_iald (pc := 783) hX dL_law_783 (fun v214 => ?_)
                                        refine z_callV (n := 2) (st := [(0, v210)]) (pc := 784) hX zc12 rfl (fun _ => (mX12_passes _ hE _ _ _ _ _)) ⟨wd1330, wd67, wd1333, ⟨by decide, by decide, by decide⟩, by decide⟩ rfl wd1331 wd1332 rfl rfl (by decide) (Nat.le_of_ble_eq_true rfl) dL_law_784 (fun v215 s216 r217 => ?_)
                                        show Zj X G 787 [(0, (2, u8)), (1, (2, u9)), (2, (2, u10)), (3, (0, x11))] [(0, v215), (0, v210)] _ _
                                        refine z_icmp_eq (pc := 787) hX 1521 dL_law_787 (by decide) (fun h218 => ?_) (fun h218 => ?_)
                                        · exact hK1521 _
                                        · refine z_iconst (pc := 790) hX dL_law_790 ?_
                                          exact z_none
                                      · refine z_eq (if_neg h207) ?_
                                        by_cases h219 : (iAnd v14 63) = 16
                                        · refine z_eq (if_pos h219) ?_
                                          refine z_tswIn (pc := 33) hX 792 dL_law_33 h219 (by decide) (by decide) rfl (by decide) ?_
                                          refine z_aload_n (pc := 792) hX 1 dL_law_792 rfl rfl ?_
                                          refine z_aload_n (pc := 793) hX 0 dL_law_793 rfl rfl ?_
                                          refine z_iload_n (pc := 794) hX 3 dL_law_794 rfl rfl ?_
                                          refine z_iconst (pc := 795) hX dL_law_795 ?_
                                          refine z_iadd (pc := 796) hX dL_law_796 ?_
                                          refine z_iald (pc := 797) hX dL_law_797 (fun v220 => ?_)
                                          refine z_aload_n (pc := 798) hX 0 dL_law_798 rfl rfl ?_
                                          refine z_iload_n (pc := 799) hX 3 dL_law_799 rfl rfl ?_
                                          refine z_iconst (pc := 800) hX dL_law_800 ?_
                                          refine z_iadd (pc := 801) hX dL_law_801 ?_
                                          refine z_iald (pc := 802) hX dL_law_802 (fun v221 => ?_)
                                          refine z_callV (n := 2) (st := []) (pc := 803) hX zc11 rfl (fun _ => (mX11_sum _ hE _ _ _ _ _)) ⟨wd842, wd61, wd845, ⟨by decide, by decide, by decide⟩, by decide⟩ rfl wd843 wd844 rfl rfl (by decide) (Nat.le_of_ble_eq_true rfl) dL_law_803 (fun v222 s223 r224 => ?_)
                                          show Zj X G 806 [(0, (2, u8)), (1, (2, u9)), (2, (2, u10)), (3, (0, x11))] [(1, v222)] _ _
                                          refine z_aload_n (pc := 806) hX 2 dL_law_806 rfl rfl ?_
                                          refine z_aload_n (pc := 807) hX 0 dL_law_807 rfl rfl ?_
                                          refine z_iload_n (pc := 808) hX 3 dL_law_808 rfl rfl ?_
                                          refine z_iconst (pc := 809) hX dL_law_809 ?_
                                          refine z_iadd (pc := 810) hX dL_law_810 ?_
                                          refine z_iald (pc := 811) hX dL_law_811 (fun v225 => ?_)
                                          refine z_aload_n (pc := 812) hX 0 dL_law_812 rfl rfl ?_
                                          refine z_iload_n (pc := 813) hX 3 dL_law_813 rfl rfl ?_
                                          refine z_iconst (pc := 814) hX dL_law_814 ?_
                                          refine z_iadd (pc := 815) hX dL_law_815 ?_
                                          refine z_iald (pc := 816) hX dL_law_816 (fun v226 => ?_)
                                          refine z_callV (n := 2) (st := [(1, v222)]) (pc := 817) hX zc12 rfl (fun _ => (mX12_sum _ hE _ _ _ _ _)) ⟨wd1334, wd67, wd1337, ⟨by decide, by decide, by decide⟩, by decide⟩ rfl wd1335 wd1336 rfl rfl (by decide) (Nat.le_of_ble_eq_true rfl) dL_law_817 (fun v227 s228 r229 => ?_)
                                          show Zj X G 820 [(0, (2, u8)), (1, (2, u9)), (2, (2, u10)), (3, (0, x11))] [(1, v227), (1, v222)] _ _
                                          refine z_lcmp (pc := 820) hX dL_law_820 ?_
                                          refine z_if_eq (pc := 821) hX 1521 dL_law_821 (by decide) (fun h230 => ?_) (fun h230 => ?_)
                                          · exact hK1521 _
                                          · refine z_iconst (pc := 824) hX dL_law_824 ?_
                                            exact z_none
                                        · refine z_eq (if_neg h219) ?_
                                          by_cases h231 : (iAnd v14 63) = 17
                                          · refine z_eq (if_pos h231) ?_
                                            refine z_tswIn (pc := 33) hX 826 dL_law_33 h231 (by decide) (by decide) rfl (by decide) ?_
                                            refine z_aload_n (pc := 826) hX 1 dL_law_826 rfl rfl ?_
                                            refine z_aload_n (pc := 827) hX 0 dL_law_827 rfl rfl ?_
                                            refine z_iload_n (pc := 828) hX 3 dL_law_828 rfl rfl ?_
                                            refine z_iconst (pc := 829) hX dL_law_829 ?_
                                            refine z_iadd (pc := 830) hX dL_law_830 ?_
                                            refine z_iald (pc := 831) hX dL_law_831 (fun v232 => ?_)
                                            refine z_aload_n (pc := 832) hX 0 dL_law_832 rfl rfl ?_
                                            refine z_iload_n (pc := 833) hX 3 dL_law_833 rfl rfl ?_
                                            refine z_iconst (pc := 834) hX dL_law_834 ?_
                                            refine z_iadd (pc := 835) hX dL_law_835 ?_
                                            refine z_iald (pc := 836) hX dL_law_836 (fun v233 => ?_)
                                            refine z_callV (n := 2) (st := []) (pc := 837) hX zc11 rfl (fun _ => (mX11_judge _ hE _ _ _ _ _)) ⟨wd851, wd61, wd854, ⟨by decide, by decide, by decide⟩, by decide⟩ rfl wd852 wd853 rfl rfl (by decide) (Nat.le_of_ble_eq_true rfl) dL_law_837 (fun v234 s235 r236 => ?_)
                                            show Zj X G 840 [(0, (2, u8)), (1, (2, u9)), (2, (2, u10)), (3, (0, x11))] [(0, v234)] _ _
                                            refine z_aload_n (pc := 840) hX 2 dL_law_840 rfl rfl ?_
                                            refine z_aload_n (pc := 841) hX 0 dL_law_841 rfl rfl ?_
                                            refine z_iload_n (pc := 842) hX 3 dL_law_842 rfl rfl ?_
                                            refine z_iconst (pc := 843) hX dL_law_843 ?_
                                            refine z_iadd (pc := 844) hX dL_law_844 ?_
                                            refine z_iald (pc := 845) hX dL_law_845 (fun v237 => ?_)
                                            refine z_aload_n (pc := 846) hX 0 dL_law_846 rfl rfl ?_
                                            refine z_iload_n (pc := 847) hX 3 dL_law_847 rfl rfl ?_
                                            refine z_iconst (pc := 848) hX dL_law_848 ?_
                                            refine z_iadd (pc := 849) hX dL_law_849 ?_
                                            refine z_iald (pc := 850) hX dL_law_850 (fun v238 => ?_)
                                            refine z_callV (n := 2) (st := [(0, v234)]) (pc := 851) hX zc12 rfl (fun _ => (mX12_judge _ hE _ _ _ _ _)) ⟨wd1347, wd67, wd1350, ⟨by decide, by decide, by decide⟩, by decide⟩ rfl wd1348 wd1349 rfl rfl (by decide) (Nat.le_of_ble_eq_true rfl) dL_law_851 (fun v239 s240 r241 => ?_)
                                            show Zj X G 854 [(0, (2, u8)), (1, (2, u9)), (2, (2, u10)), (3, (0, x11))] [(0, v239), (0, v234)] _ _
                                            refine z_icmp_eq (pc := 854) hX 1521 dL_law_854 (by decide) (fun h242 => ?_) (fun h242 => ?_)
                                            · exact hK1521 _
                                            · refine z_iconst (pc := 857) hX dL_law_857 ?_
                                              exact z_none
                                          · refine z_eq (if_neg h231) ?_
                                            by_cases h243 : (iAnd v14 63) = 18
                                            · refine z_eq (if_pos h243) ?_
                                              refine z_tswIn (pc := 33) hX 859 dL_law_33 h243 (by decide) (by decide) rfl (by decide) ?_
                                              refine z_aload_n (pc := 859) hX 1 dL_law_859 rfl rfl ?_
                                              refine z_aload_n (pc := 860) hX 0 dL_law_860 rfl rfl ?_
                                              refine z_iload_n (pc := 861) hX 3 dL_law_861 rfl rfl ?_
                                              refine z_iconst (pc := 862) hX dL_law_862 ?_
                                              refine z_iadd (pc := 863) hX dL_law_863 ?_
                                              refine z_iald (pc := 864) hX dL_law_864 (fun v244 => ?_)
                                              refine z_aload_n (pc := 865) hX 0 dL_law_865 rfl rfl ?_
                                              refine z_iload_n (pc := 866) hX 3 dL_law_866 rfl rfl ?_
                                              refine z_iconst (pc := 867) hX dL_law_867 ?_
                                              refine z_iadd (pc := 868) hX dL_law_868 ?_
                                              refine z_iald (pc := 869) hX dL_law_869 (fun v245 => ?_)
                                              refine z_callV (n := 2) (st := []) (pc := 870) hX zc11 rfl (fun _ => (mX11_rest _ hE _ _ _ _ _)) ⟨wd872, wd61, wd875, ⟨by decide, by decide, by decide⟩, by decide⟩ rfl wd873 wd874 rfl rfl (by decide) (Nat.le_of_ble_eq_true rfl) dL_law_870 (fun v246 s247 r248 => ?_)
                                              show Zj X G 873 [(0, (2, u8)), (1, (2, u9)), (2, (2, u10)), (3, (0, x11))] [(0, v246)] _ _
                                              refine z_aload_n (pc := 873) hX 2 dL_law_873 rfl rfl ?_
                                              refine z_aload_n (pc := 874) hX 0 dL_law_874 rfl rfl ?_
                                              refine z_iload_n (pc := 875) hX 3 dL_law_875 rfl rfl ?_
                                              refine z_iconst (pc := 876) hX dL_law_876 ?_
                                              refine z_iadd (pc := 877) hX dL_law_877 ?_
                                              refine z_iald (pc := 878) hX dL_law_878 (fun v249 => ?_)
                                              refine z_aload_n (pc := 879) hX 0 dL_law_879 rfl rfl ?_
                                              refine z_iload_n (pc := 880) hX 3 dL_law_880 rfl rfl ?_
                                              refine z_iconst (pc := 881) hX dL_law_881 ?_
                                              refine z_iadd (pc := 882) hX dL_law_882 ?_
                                              refine z_iald (pc := 883) hX dL_law_883 (fun v250 => ?_)
                                              refine z_callV (n := 2) (st := [(0, v246)]) (pc := 884) hX zc12 rfl (fun _ => (mX12_rest _ hE _ _ _ _ _)) ⟨wd1359, wd67, wd1362, ⟨by decide, by decide, by decide⟩, by decide⟩ rfl wd1360 wd1361 rfl rfl (by decide) (Nat.le_of_ble_eq_true rfl) dL_law_884 (fun v251 s252 r253 => ?_)
                                              show Zj X G 887 [(0, (2, u8)), (1, (2, u9)), (2, (2, u10)), (3, (0, x11))] [(0, v251), (0, v246)] _ _
                                              refine z_icmp_eq (pc := 887) hX 1521 dL_law_887 (by decide) (fun h254 => ?_) (fun h254 => ?_)
                                              · exact hK1521 _
                                              · refine z_iconst (pc := 890) hX dL_law_890 ?_
                                                exact z_none
                                            · refine z_eq (if_neg h243) ?_
                                              by_cases h255 : (iAnd v14 63) = 19
                                              · refine z_eq (if_pos h255) ?_
                                                refine z_tswIn (pc := 33) hX 892 dL_law_33 h255 (by decide) (by decide) rfl (by decide) ?_
                                                refine z_aload_n (pc := 892) hX 1 dL_law_892 rfl rfl ?_
                                                refine z_aload_n (pc := 893) hX 0 dL_law_893 rfl rfl ?_
                                                refine z_iload_n (pc := 894) hX 3 dL_law_894 rfl rfl ?_
                                                refine z_iconst (pc := 895) hX dL_law_895 ?_
                                                refine z_iadd (pc := 896) hX dL_law_896 ?_
                                                refine z_iald (pc := 897) hX dL_law_897 (fun v256 => ?_)
                                                refine z_aload_n (pc := 898) hX 0 dL_law_898 rfl rfl ?_
                                                refine z_iload_n (pc := 899) hX 3 dL_law_899 rfl rfl ?_
                                                refine z_iconst (pc := 900) hX dL_law_900 ?_
                                                refine z_iadd (pc := 901) hX dL_law_901 ?_
                                                refine z_iald (pc := 902) hX dL_law_902 (fun v257 => ?_)
                                                refine z_aload_n (pc := 903) hX 0 dL_law_903 rfl rfl ?_
                                                refine z_iload_n (pc := 904) hX 3 dL_law_904 rfl rfl ?_
                                                refine z_iconst (pc := 905) hX dL_law_905 ?_
                                                refine z_iadd (pc := 906) hX dL_law_906 ?_
                                                refine z_iald (pc := 907) hX dL_law_907 (fun v258 => ?_)
                                                refine z_callV (n := 3) (st := []) (pc := 908) hX zc11 rfl (fun _ => (mX11_other _ hE _ _ _ _ _ _)) ⟨wd880, wd61, wd883, ⟨by decide, by decide, by decide⟩, by decide⟩ rfl wd881 wd882 rfl rfl (by decide) (Nat.le_of_ble_eq_true rfl) dL_law_908 (fun v259 s260 r261 => ?_)
                                                show Zj X G 911 [(0, (2, u8)), (1, (2, u9)), (2, (2, u10)), (3, (0, x11))] [(0, v259)] _ _
                                                refine z_aload_n (pc := 911) hX 2 dL_law_911 rfl rfl ?_
                                                refine z_aload_n (pc := 912) hX 0 dL_law_912 rfl rfl ?_
                                                refine z_iload_n (pc := 913) hX 3 dL_law_913 rfl rfl ?_
                                                refine z_iconst (pc := 914) hX dL_law_914 ?_
                                                refine z_iadd (pc := 915) hX dL_law_915 ?_
                                                refine z_iald (pc := 916) hX dL_law_916 (fun v262 => ?_)
                                                refine z_aload_n (pc := 917) hX 0 dL_law_917 rfl rfl ?_
                                                refine z_iload_n (pc := 918) hX 3 dL_law_918 rfl rfl ?_
                                                refine z_iconst (pc := 919) hX dL_law_919 ?_
                                                refine z_iadd (pc := 920) hX dL_law_920 ?_
                                                refine z_iald (pc := 921) hX dL_law_921 (fun v263 => ?_)
                                                refine z_aload_n (pc := 922) hX 0 dL_law_922 rfl rfl ?_
                                                refine z_iload_n (pc := 923) hX 3 dL_law_923 rfl rfl ?_
                                                refine z_iconst (pc := 924) hX dL_law_924 ?_
                                                refine z_iadd (pc := 925) hX dL_law_925 ?_
                                                refine z_iald (pc := 926) hX dL_law_926 (fun v264 => ?_)
                                                refine z_callV (n := 3) (st := [(0, v259)]) (pc := 927) hX zc12 rfl (fun _ => (mX12_other _ hE _ _ _ _ _ _)) ⟨wd1367, wd67, wd1370, ⟨by decide, by decide, by decide⟩, by decide⟩ rfl wd1368 wd1369 rfl rfl (by decide) (Nat.le_of_ble_eq_true rfl) dL_law_927 (fun v265 s266 r267 => ?_)
                                                show Zj X G 930 [(0, (2, u8)), (1, (2, u9)), (2, (2, u10)), (3, (0, x11))] [(0, v265), (0, v259)] _ _
                                                refine z_icmp_eq (pc := 930) hX 1521 dL_law_930 (by decide) (fun h268 => ?_) (fun h268 => ?_)
                                                · exact hK1521 _
                                                · refine z_iconst (pc := 933) hX dL_law_933 ?_
                                                  exact z_none
                                              · refine z_eq (if_neg h255) ?_
                                                by_cases h269 : (iAnd v14 63) = 20
                                                · refine z_eq (if_pos h269) ?_
                                                  refine z_tswIn (pc := 33) hX 935 dL_law_33 h269 (by decide) (by decide) rfl (by decide) ?_
                                                  refine z_aload_n (pc := 935) hX 1 dL_law_935 rfl rfl ?_
                                                  refine z_aload_n (pc := 936) hX 0 dL_law_936 rfl rfl ?_
                                                  refine z_iload_n (pc := 937) hX 3 dL_law_937 rfl rfl ?_
                                                  refine z_iconst (pc := 938) hX dL_law_938 ?_
                                                  refine z_iadd (pc := 939) hX dL_law_939 ?_
                                                  refine z_iald (pc := 940) hX dL_law_940 (fun v270 => ?_)
                                                  refine z_aload_n (pc := 941) hX 0 dL_law_941 rfl rfl ?_
                                                  refine z_iload_n (pc := 942) hX 3 dL_law_942 rfl rfl ?_
                                                  refine z_iconst (pc := 943) hX dL_law_943 ?_
                                                  refine z_iadd (pc := 944) hX dL_law_944 ?_
                                                  refine z_iald (pc := 945) hX dL_law_945 (fun v271 => ?_)
                                                  refine z_aload_n (pc := 946) hX 0 dL_law_946 rfl rfl ?_
                                                  refine z_iload_n (pc := 947) hX 3 dL_law_947 rfl rfl ?_
                                                  refine z_iconst (pc := 948) hX dL_law_948 ?_
                                                  refine z_iadd (pc := 949) hX dL_law_949 ?_
                                                  refine z_iald (pc := 950) hX dL_law_950 (fun v272 => ?_)
                                                  refine z_callV (n := 3) (st := []) (pc := 951) hX zc11 rfl (fun _ => (mX11_swap _ hE _ _ _ _ _ _)) ⟨wd884, wd61, wd887, ⟨by decide, by decide, by decide⟩, by decide⟩ rfl wd885 wd886 rfl rfl (by decide) (Nat.le_of_ble_eq_true rfl) dL_law_951 (fun v273 s274 r275 => ?_)
                                                  show Zj X G 954 [(0, (2, u8)), (1, (2, u9)), (2, (2, u10)), (3, (0, x11))] [(0, v273)] _ _
                                                  refine z_aload_n (pc := 954) hX 2 dL_law_954 rfl rfl ?_
                                                  refine z_aload_n (pc := 955) hX 0 dL_law_955 rfl rfl ?_
                                                  refine z_iload_n (pc := 956) hX 3 dL_law_956 rfl rfl ?_
                                                  refine z_iconst (pc := 957) hX dL_law_957 ?_
                                                  refine z_iadd (pc := 958) hX dL_law_958 ?_
                                                  refine z_iald (pc := 959) hX dL_law_959 (fun v276 => ?_)
                                                  refine z_aload_n (pc := 960) hX 0 dL_law_960 rfl rfl ?_
                                                  refine z_iload_n (pc := 961) hX 3 dL_law_961 rfl rfl ?_
                                                  refine z_iconst (pc := 962) hX dL_law_962 ?_
                                                  refine z_iadd (pc := 963) hX dL_law_963 ?_
                                                  refine z_iald (pc := 964) hX dL_law_964 (fun v277 => ?_)
                                                  refine z_aload_n (pc := 965) hX 0 dL_law_965 rfl rfl ?_
                                                  refine z_iload_n (pc := 966) hX 3 dL_law_966 rfl rfl ?_
                                                  refine z_iconst (pc := 967) hX dL_law_967 ?_
                                                  refine z_iadd (pc := 968) hX dL_law_968 ?_
                                                  refine z_iald (pc := 969) hX dL_law_969 (fun v278 => ?_)
                                                  refine z_callV (n := 3) (st := [(0, v273)]) (pc := 970) hX zc12 rfl (fun _ => (mX12_swap _ hE _ _ _ _ _ _)) ⟨wd1371, wd67, wd1374, ⟨by decide, by decide, by decide⟩, by decide⟩ rfl wd1372 wd1373 rfl rfl (by decide) (Nat.le_of_ble_eq_true rfl) dL_law_970 (fun v279 s280 r281 => ?_)
                                                  show Zj X G 973 [(0, (2, u8)), (1, (2, u9)), (2, (2, u10)), (3, (0, x11))] [(0, v279), (0, v273)] _ _
                                                  refine z_icmp_eq (pc := 973) hX 1521 dL_law_973 (by decide) (fun h282 => ?_) (fun h282 => ?_)
                                                  · exact hK1521 _
                                                  · refine z_iconst (pc := 976) hX dL_law_976 ?_
                                                    exact z_none
                                                · refine z_eq (if_neg h269) ?_
                                                  by_cases h283 : (iAnd v14 63) = 21
                                                  · refine z_eq (if_pos h283) ?_
                                                    refine z_tswIn (pc := 33) hX 978 dL_law_33 h283 (by decide) (by decide) rfl (by decide) ?_
                                                    refine z_aload_n (pc := 978) hX 1 dL_law_978 rfl rfl ?_
                                                    refine z_aload_n (pc := 979) hX 0 dL_law_979 rfl rfl ?_
                                                    refine z_iload_n (pc := 980) hX 3 dL_law_980 rfl rfl ?_
                                                    refine z_iconst (pc := 981) hX dL_law_981 ?_
                                                    refine z_iadd (pc := 982) hX dL_law_982 ?_
                                                    refine z_iald (pc := 983) hX dL_law_983 (fun v284 => ?_)
                                                    refine z_aload_n (pc := 984) hX 0 dL_law_984 rfl rfl ?_
                                                    refine z_iload_n (pc := 985) hX 3 dL_law_985 rfl rfl ?_
                                                    refine z_iconst (pc := 986) hX dL_law_986 ?_
                                                    refine z_iadd (pc := 987) hX dL_law_987 ?_
                                                    refine z_iald (pc := 988) hX dL_law_988 (fun v285 => ?_)
                                                    refine z_aload_n (pc := 989) hX 0 dL_law_989 rfl rfl ?_
                                                    refine z_iload_n (pc := 990) hX 3 dL_law_990 rfl rfl ?_
                                                    refine z_iconst (pc := 991) hX dL_law_991 ?_
                                                    refine z_iadd (pc := 992) hX dL_law_992 ?_
                                                    refine z_iald (pc := 993) hX dL_law_993 (fun v286 => ?_)
                                                    refine z_aload_n (pc := 994) hX 0 dL_law_994 rfl rfl ?_
                                                    refine z_iload_n (pc := 995) hX 3 dL_law_995 rfl rfl ?_
                                                    refine z_iconst (pc := 996) hX dL_law_996 ?_
                                                    refine z_iadd (pc := 997) hX dL_law_997 ?_
                                                    refine z_iald (pc := 998) hX dL_law_998 (fun v287 => ?_)
                                                    refine z_callV (n := 4) (st := []) (pc := 999) hX zc11 rfl (fun _ => (mX11_beside _ hE _ _ _ _ _ _ _)) ⟨wd898, wd61, wd901, ⟨by decide, by decide, by decide⟩, by decide⟩ rfl wd899 wd900 rfl rfl (by decide) (Nat.le_of_ble_eq_true rfl) dL_law_999 (fun v288 s289 r290 => ?_)
                                                    show Zj X G 1002 [(0, (2, u8)), (1, (2, u9)), (2, (2, u10)), (3, (0, x11))] [(1, v288)] _ _
                                                    refine z_aload_n (pc := 1002) hX 2 dL_law_1002 rfl rfl ?_
                                                    refine z_aload_n (pc := 1003) hX 0 dL_law_1003 rfl rfl ?_
                                                    refine z_iload_n (pc := 1004) hX 3 dL_law_1004 rfl rfl ?_
                                                    refine z_iconst (pc := 1005) hX dL_law_1005 ?_
                                                    refine z_iadd (pc := 1006) hX dL_law_1006 ?_
                                                    refine z_iald (pc := 1007) hX dL_law_1007 (fun v291 => ?_)
                                                    refine z_aload_n (pc := 1008) hX 0 dL_law_1008 rfl rfl ?_
                                                    refine z_iload_n (pc := 1009) hX 3 dL_law_1009 rfl rfl ?_
                                                    refine z_iconst (pc := 1010) hX dL_law_1010 ?_
                                                    refine z_iadd (pc := 1011) hX dL_law_1011 ?_
                                                    refine z_iald (pc := 1012) hX dL_law_1012 (fun v292 => ?_)
                                                    refine z_aload_n (pc := 1013) hX 0 dL_law_1013 rfl rfl ?_
                                                    refine z_iload_n (pc := 1014) hX 3 dL_law_1014 rfl rfl ?_
                                                    refine z_iconst (pc := 1015) hX dL_law_1015 ?_
                                                    refine z_iadd (pc := 1016) hX dL_law_1016 ?_
                                                    refine z_iald (pc := 1017) hX dL_law_1017 (fun v293 => ?_)
                                                    refine z_aload_n (pc := 1018) hX 0 dL_law_1018 rfl rfl ?_
                                                    refine z_iload_n (pc := 1019) hX 3 dL_law_1019 rfl rfl ?_
                                                    refine z_iconst (pc := 1020) hX dL_law_1020 ?_
                                                    refine z_iadd (pc := 1021) hX dL_law_1021 ?_
                                                    refine z_iald (pc := 1022) hX dL_law_1022 (fun v294 => ?_)
                                                    refine z_callV (n := 4) (st := [(1, v288)]) (pc := 1023) hX zc12 rfl (fun _ => (mX12_beside _ hE _ _ _ _ _ _ _)) ⟨wd1375, wd67, wd1378, ⟨by decide, by decide, by decide⟩, by decide⟩ rfl wd1376 wd1377 rfl rfl (by decide) (Nat.le_of_ble_eq_true rfl) dL_law_1023 (fun v295 s296 r297 => ?_)
                                                    show Zj X G 1026 [(0, (2, u8)), (1, (2, u9)), (2, (2, u10)), (3, (0, x11))] [(1, v295), (1, v288)] _ _
                                                    refine z_lcmp (pc := 1026) hX dL_law_1026 ?_
                                                    refine z_if_eq (pc := 1027) hX 1521 dL_law_1027 (by decide) (fun h298 => ?_) (fun h298 => ?_)
                                                    · exact hK1521 _
                                                    · refine z_iconst (pc := 1030) hX dL_law_1030 ?_
                                                      exact z_none
                                                  · refine z_eq (if_neg h283) ?_
                                                    by_cases h299 : (iAnd v14 63) = 22
                                                    · refine z_eq (if_pos h299) ?_
                                                      refine z_tswIn (pc := 33) hX 1032 dL_law_33 h299 (by decide) (by decide) rfl (by decide) ?_
                                                      refine z_aload_n (pc := 1032) hX 1 dL_law_1032 rfl rfl ?_
                                                      refine z_aload_n (pc := 1033) hX 0 dL_law_1033 rfl rfl ?_
                                                      refine z_iload_n (pc := 1034) hX 3 dL_law_1034 rfl rfl ?_
                                                      refine z_iconst (pc := 1035) hX dL_law_1035 ?_
                                                      refine z_iadd (pc := 1036) hX dL_law_1036 ?_
                                                      refine z_iald (pc := 1037) hX dL_law_1037 (fun v300 => ?_)
                                                      refine z_aload_n (pc := 1038) hX 0 dL_law_1038 rfl rfl ?_
                                                      refine z_iload_n (pc := 1039) hX 3 dL_law_1039 rfl rfl ?_
                                                      refine z_iconst (pc := 1040) hX dL_law_1040 ?_
                                                      refine z_iadd (pc := 1041) hX dL_law_1041 ?_
                                                      refine z_iald (pc := 1042) hX dL_law_1042 (fun v301 => ?_)
                                                      refine z_aload_n (pc := 1043) hX 0 dL_law_1043 rfl rfl ?_
                                                      refine z_iload_n (pc := 1044) hX 3 dL_law_1044 rfl rfl ?_
                                                      refine z_iconst (pc := 1045) hX dL_law_1045 ?_
                                                      refine z_iadd (pc := 1046) hX dL_law_1046 ?_
                                                      refine z_iald (pc := 1047) hX dL_law_1047 (fun v302 => ?_)
                                                      refine z_aload_n (pc := 1048) hX 0 dL_law_1048 rfl rfl ?_
                                                      refine z_iload_n (pc := 1049) hX 3 dL_law_1049 rfl rfl ?_
                                                      refine z_iconst (pc := 1050) hX dL_law_1050 ?_
                                                      refine z_iadd (pc := 1051) hX dL_law_1051 ?_
                                                      refine z_iald (pc := 1052) hX dL_law_1052 (fun v303 => ?_)
                                                      refine z_aload_n (pc := 1053) hX 0 dL_law_1053 rfl rfl ?_
                                                      refine z_iload_n (pc := 1054) hX 3 dL_law_1054 rfl rfl ?_
                                                      refine z_iconst (pc := 1055) hX dL_law_1055 ?_
                                                      refine z_iadd (pc := 1056) hX dL_law_1056 ?_
                                                      refine z_iald (pc := 1057) hX dL_law_1057 (fun v304 => ?_)
                                                      refine z_callV (n := 5) (st := []) (pc := 1058) hX zc11 rfl (fun _ => (mX11_sticks _ hE _ _ _ _ _ _ _ _)) ⟨wd910, wd61, wd913, ⟨by decide, by decide, by decide⟩, by decide⟩ rfl wd911 wd912 rfl rfl (by decide) (Nat.le_of_ble_eq_true rfl) dL_law_1058 (fun v305 s306 r307 => ?_)
                                                      show Zj X G 1061 [(0, (2, u8)), (1, (2, u9)), (2, (2, u10)), (3, (0, x11))] [(1, v305)] _ _
                                                      refine z_aload_n (pc := 1061) hX 2 dL_law_1061 rfl rfl ?_
                                                      refine z_aload_n (pc := 1062) hX 0 dL_law_1062 rfl rfl ?_
                                                      refine z_iload_n (pc := 1063) hX 3 dL_law_1063 rfl rfl ?_
                                                      refine z_iconst (pc := 1064) hX dL_law_1064 ?_
                                                      refine z_iadd (pc := 1065) hX dL_law_1065 ?_
                                                      refine z_iald (pc := 1066) hX dL_law_1066 (fun v308 => ?_)
                                                      refine z_aload_n (pc := 1067) hX 0 dL_law_1067 rfl rfl ?_
                                                      refine z_iload_n (pc := 1068) hX 3 dL_law_1068 rfl rfl ?_
                                                      refine z_iconst (pc := 1069) hX dL_law_1069 ?_
                                                      refine z_iadd (pc := 1070) hX dL_law_1070 ?_
                                                      refine z_iald (pc := 1071) hX dL_law_1071 (fun v309 => ?_)
                                                      refine z_aload_n (pc := 1072) hX 0 dL_law_1072 rfl rfl ?_
                                                      refine z_iload_n (pc := 1073) hX 3 dL_law_1073 rfl rfl ?_
                                                      refine z_iconst (pc := 1074) hX dL_law_1074 ?_
                                                      refine z_iadd (pc := 1075) hX dL_law_1075 ?_
                                                      refine z_iald (pc := 1076) hX dL_law_1076 (fun v310 => ?_)
                                                      refine z_aload_n (pc := 1077) hX 0 dL_law_1077 rfl rfl ?_
                                                      refine z_iload_n (pc := 1078) hX 3 dL_law_1078 rfl rfl ?_
                                                      refine z_iconst (pc := 1079) hX dL_law_1079 ?_
                                                      refine z_iadd (pc := 1080) hX dL_law_1080 ?_
                                                      refine z_iald (pc := 1081) hX dL_law_1081 (fun v311 => ?_)
                                                      refine z_aload_n (pc := 1082) hX 0 dL_law_1082 rfl rfl ?_
                                                      refine z_iload_n (pc := 1083) hX 3 dL_law_1083 rfl rfl ?_
                                                      refine z_iconst (pc := 1084) hX dL_law_1084 ?_
                                                      refine z_iadd (pc := 1085) hX dL_law_1085 ?_
                                                      refine z_iald (pc := 1086) hX dL_law_1086 (fun v312 => ?_)
                                                      refine z_callV (n := 5) (st := [(1, v305)]) (pc := 1087) hX zc12 rfl (fun _ => (mX12_sticks _ hE _ _ _ _ _ _ _ _)) ⟨wd1383, wd67, wd1386, ⟨by decide, by decide, by decide⟩, by decide⟩ rfl wd1384 wd1385 rfl rfl (by decide) (Nat.le_of_ble_eq_true rfl) dL_law_1087 (fun v313 s314 r315 => ?_)
                                                      show Zj X G 1090 [(0, (2, u8)), (1, (2, u9)), (2, (2, u10)), (3, (0, x11))] [(1, v313), (1, v305)] _ _
                                                      refine z_lcmp (pc := 1090) hX dL_law_1090 ?_
                                                      refine z_if_eq (pc := 1091) hX 1521 dL_law_1091 (by decide) (fun h316 => ?_) (fun h316 => ?_)
                                                      · exact hK1521 _
                                                      · refine z_iconst (pc := 1094) hX dL_law_1094 ?_
                                                        exact z_none
                                                    · refine z_eq (if_neg h299) ?_
                                                      by_cases h317 : (iAnd v14 63) = 23
                                                      · refine z_eq (if_pos h317) ?_
                                                        refine z_tswIn (pc := 33) hX 1096 dL_law_33 h317 (by decide) (by decide) rfl (by decide) ?_
                                                        refine z_aload_n (pc := 1096) hX 1 dL_law_1096 rfl rfl ?_
                                                        refine z_aload_n (pc := 1097) hX 0 dL_law_1097 rfl rfl ?_
                                                        refine z_iload_n (pc := 1098) hX 3 dL_law_1098 rfl rfl ?_
                                                        refine z_iconst (pc := 1099) hX dL_law_1099 ?_
                                                        refine z_iadd (pc := 1100) hX dL_law_1100 ?_
                                                        refine z_iald (pc := 1101) hX dL_law_1101 (fun v318 => ?_)
                                                        refine z_aload_n (pc := 1102) hX 0 dL_law_1102 rfl rfl ?_
                                                        refine z_iload_n (pc := 1103) hX 3 dL_law_1103 rfl rfl ?_
                                                        refine z_iconst (pc := 1104) hX dL_law_1104 ?_
                                                        refine z_iadd (pc := 1105) hX dL_law_1105 ?_
                                                        refine z_iald (pc := 1106) hX dL_law_1106 (fun v319 => ?_)
                                                        refine z_callV (n := 2) (st := []) (pc := 1107) hX zc11 rfl (fun _ => (mX11_shift _ hE _ _ _ _ _)) ⟨wd915, wd61, wd918, ⟨by decide, by decide, by decide⟩, by decide⟩ rfl wd916 wd917 rfl rfl (by decide) (Nat.le_of_ble_eq_true rfl) dL_law_1107 (fun v320 s321 r322 => ?_)
                                                        show Zj X G 1110 [(0, (2, u8)), (1, (2, u9)), (2, (2, u10)), (3, (0, x11))] [(1, v320)] _ _
                                                        refine z_aload_n (pc := 1110) hX 2 dL_law_1110 rfl rfl ?_
                                                        refine z_aload_n (pc := 1111) hX 0 dL_law_1111 rfl rfl ?_
                                                        refine z_iload_n (pc := 1112) hX 3 dL_law_1112 rfl rfl ?_
                                                        refine z_iconst (pc := 1113) hX dL_law_1113 ?_
                                                        refine z_iadd (pc := 1114) hX dL_law_1114 ?_
                                                        refine z_iald (pc := 1115) hX dL_law_1115 (fun v323 => ?_)
                                                        refine z_aload_n (pc := 1116) hX 0 dL_law_1116 rfl rfl ?_
                                                        refine z_iload_n (pc := 1117) hX 3 dL_law_1117 rfl rfl ?_
                                                        refine z_iconst (pc := 1118) hX dL_law_1118 ?_
                                                        refine z_iadd (pc := 1119) hX dL_law_1119 ?_
                                                        refine z_iald (pc := 1120) hX dL_law_1120 (fun v324 => ?_)
                                                        refine z_callV (n := 2) (st := [(1, v320)]) (pc := 1121) hX zc12 rfl (fun _ => (mX12_shift _ hE _ _ _ _ _)) ⟨wd1391, wd67, wd1394, ⟨by decide, by decide, by decide⟩, by decide⟩ rfl wd1392 wd1393 rfl rfl (by decide) (Nat.le_of_ble_eq_true rfl) dL_law_1121 (fun v325 s326 r327 => ?_)
                                                        show Zj X G 1124 [(0, (2, u8)), (1, (2, u9)), (2, (2, u10)), (3, (0, x11))] [(1, v325), (1, v320)] _ _
                                                        refine z_lcmp (pc := 1124) hX dL_law_1124 ?_
                                                        refine z_if_eq (pc := 1125) hX 1521 dL_law_1125 (by decide) (fun h328 => ?_) (fun h328 => ?_)
                                                        · exact hK1521 _
                                                        · refine z_iconst (pc := 1128) hX dL_law_1128 ?_
                                                          exact z_none
                                                      · refine z_eq (if_neg h317) ?_
                                                        by_cases h329 : (iAnd v14 63) = 24
                                                        · refine z_eq (if_pos h329) ?_
                                                          refine z_tswIn (pc := 33) hX 1130 dL_law_33 h329 (by decide) (by decide) rfl (by decide) ?_
                                                          refine z_aload_n (pc := 1130) hX 1 dL_law_1130 rfl rfl ?_
                                                          refine z_aload_n (pc := 1131) hX 0 dL_law_1131 rfl rfl ?_
                                                          refine z_iload_n (pc := 1132) hX 3 dL_law_1132 rfl rfl ?_
                                                          refine z_iconst (pc := 1133) hX dL_law_1133 ?_
                                                          refine z_iadd (pc := 1134) hX dL_law_1134 ?_
                                                          refine z_iald (pc := 1135) hX dL_law_1135 (fun v330 => ?_)
                                                          refine z_aload_n (pc := 1136) hX 0 dL_law_1136 rfl rfl ?_
                                                          refine z_iload_n (pc := 1137) hX 3 dL_law_1137 rfl rfl ?_
                                                          refine z_iconst (pc := 1138) hX dL_law_1138 ?_
                                                          refine z_iadd (pc := 1139) hX dL_law_1139 ?_
                                                          refine z_iald (pc := 1140) hX dL_law_1140 (fun v331 => ?_)
                                                          refine z_aload_n (pc := 1141) hX 0 dL_law_1141 rfl rfl ?_
                                                          refine z_iload_n (pc := 1142) hX 3 dL_law_1142 rfl rfl ?_
                                                          refine z_iconst (pc := 1143) hX dL_law_1143 ?_
                                                          refine z_iadd (pc := 1144) hX dL_law_1144 ?_
                                                          refine z_iald (pc := 1145) hX dL_law_1145 (fun v332 => ?_)
                                                          refine z_aload_n (pc := 1146) hX 0 dL_law_1146 rfl rfl ?_
                                                          refine z_iload_n (pc := 1147) hX 3 dL_law_1147 rfl rfl ?_
                                                          refine z_iconst (pc := 1148) hX dL_law_1148 ?_
                                                          refine z_iadd (pc := 1149) hX dL_law_1149 ?_
                                                          refine z_iald (pc := 1150) hX dL_law_1150 (fun v333 => ?_)
                                                          refine z_callV (n := 4) (st := []) (pc := 1151) hX zc11 rfl (fun _ => (mX11_finest _ hE _ _ _ _ _ _ _)) ⟨wd919, wd61, wd922, ⟨by decide, by decide, by decide⟩, by decide⟩ rfl wd920 wd921 rfl rfl (by decide) (Nat.le_of_ble_eq_true rfl) dL_law_1151 (fun v334 s335 r336 => ?_)
                                                          show Zj X G 1154 [(0, (2, u8)), (1, (2, u9)), (2, (2, u10)), (3, (0, x11))] [(0, v334)] _ _
                                                          refine z_aload_n (pc := 1154) hX 2 dL_law_1154 rfl rfl ?_
                                                          refine z_aload_n (pc := 1155) hX 0 dL_law_1155 rfl rfl ?_
                                                          refine z_iload_n (pc := 1156) hX 3 dL_law_1156 rfl rfl ?_
                                                          refine z_iconst (pc := 1157) hX dL_law_1157 ?_
                                                          refine z_iadd (pc := 1158) hX dL_law_1158 ?_
                                                          refine z_iald (pc := 1159) hX dL_law_1159 (fun v337 => ?_)
                                                          refine z_aload_n (pc := 1160) hX 0 dL_law_1160 rfl rfl ?_
                                                          refine z_iload_n (pc := 1161) hX 3 dL_law_1161 rfl rfl ?_
                                                          refine z_iconst (pc := 1162) hX dL_law_1162 ?_
                                                          refine z_iadd (pc := 1163) hX dL_law_1163 ?_
                                                          refine z_iald (pc := 1164) hX dL_law_1164 (fun v338 => ?_)
                                                          refine z_aload_n (pc := 1165) hX 0 dL_law_1165 rfl rfl ?_
                                                          refine z_iload_n (pc := 1166) hX 3 dL_law_1166 rfl rfl ?_
                                                          refine z_iconst (pc := 1167) hX dL_law_1167 ?_
                                                          refine z_iadd (pc := 1168) hX dL_law_1168 ?_
                                                          refine z_iald (pc := 1169) hX dL_law_1169 (fun v339 => ?_)
                                                          refine z_aload_n (pc := 1170) hX 0 dL_law_1170 rfl rfl ?_
                                                          refine z_iload_n (pc := 1171) hX 3 dL_law_1171 rfl rfl ?_
                                                          refine z_iconst (pc := 1172) hX dL_law_1172 ?_
                                                          refine z_iadd (pc := 1173) hX dL_law_1173 ?_
                                                          refine z_iald (pc := 1174) hX dL_law_1174 (fun v340 => ?_)
                                                          refine z_callV (n := 4) (st := [(0, v334)]) (pc := 1175) hX zc12 rfl (fun _ => (mX12_finest _ hE _ _ _ _ _ _ _)) ⟨wd1395, wd67, wd1398, ⟨by decide, by decide, by decide⟩, by decide⟩ rfl wd1396 wd1397 rfl rfl (by decide) (Nat.le_of_ble_eq_true rfl) dL_law_1175 (fun v341 s342 r343 => ?_)
                                                          show Zj X G 1178 [(0, (2, u8)), (1, (2, u9)), (2, (2, u10)), (3, (0, x11))] [(0, v341), (0, v334)] _ _
                                                          refine z_icmp_eq (pc := 1178) hX 1521 dL_law_1178 (by decide) (fun h344 => ?_) (fun h344 => ?_)
                                                          · exact hK1521 _
                                                          · refine z_iconst (pc := 1181) hX dL_law_1181 ?_
                                                            exact z_none
                                                        · refine z_eq (if_neg h329) ?_
                                                          by_cases h345 : (iAnd v14 63) = 25
                                                          · refine z_eq (if_pos h345) ?_
                                                            refine z_tswIn (pc := 33) hX 1183 dL_law_33 h345 (by decide) (by decide) rfl (by decide) ?_
                                                            refine z_aload_n (pc := 1183) hX 1 dL_law_1183 rfl rfl ?_
                                                            refine z_aload_n (pc := 1184) hX 0 dL_law_1184 rfl rfl ?_
                                                            refine z_iload_n (pc := 1185) hX 3 dL_law_1185 rfl rfl ?_
                                                            refine z_iconst (pc := 1186) hX dL_law_1186 ?_
                                                            refine z_iadd (pc := 1187) hX dL_law_1187 ?_
                                                            refine z_iald (pc := 1188) hX dL_law_1188 (fun v346 => ?_)
                                                            refine z_aload_n (pc := 1189) hX 0 dL_law_1189 rfl rfl ?_
                                                            refine z_iload_n (pc := 1190) hX 3 dL_law_1190 rfl rfl ?_
                                                            refine z_iconst (pc := 1191) hX dL_law_1191 ?_
                                                            refine z_iadd (pc := 1192) hX dL_law_1192 ?_
                                                            refine z_iald (pc := 1193) hX dL_law_1193 (fun v347 => ?_)
                                                            refine z_aload_n (pc := 1194) hX 0 dL_law_1194 rfl rfl ?_
                                                            refine z_iload_n (pc := 1195) hX 3 dL_law_1195 rfl rfl ?_
                                                            refine z_iconst (pc := 1196) hX dL_law_1196 ?_
                                                            refine z_iadd (pc := 1197) hX dL_law_1197 ?_
                                                            refine z_iald (pc := 1198) hX dL_law_1198 (fun v348 => ?_)
                                                            refine z_aload_n (pc := 1199) hX 0 dL_law_1199 rfl rfl ?_
                                                            refine z_iload_n (pc := 1200) hX 3 dL_law_1200 rfl rfl ?_
                                                            refine z_iconst (pc := 1201) hX dL_law_1201 ?_
                                                            refine z_iadd (pc := 1202) hX dL_law_1202 ?_
                                                            refine z_iald (pc := 1203) hX dL_law_1203 (fun v349 => ?_)
                                                            refine z_callV (n := 4) (st := []) (pc := 1204) hX zc11 rfl (fun _ => (mX11_split _ hE _ _ _ _ _ _ _)) ⟨wd927, wd61, wd930, ⟨by decide, by decide, by decide⟩, by decide⟩ rfl wd928 wd929 rfl rfl (by decide) (Nat.le_of_ble_eq_true rfl) dL_law_1204 (fun v350 s351 r352 => ?_)
                                                            show Zj X G 1207 [(0, (2, u8)), (1, (2, u9)), (2, (2, u10)), (3, (0, x11))] [(1, v350)] _ _
                                                            refine z_aload_n (pc := 1207) hX 2 dL_law_1207 rfl rfl ?_
                                                            refine z_aload_n (pc := 1208) hX 0 dL_law_1208 rfl rfl ?_
                                                            refine z_iload_n (pc := 1209) hX 3 dL_law_1209 rfl rfl ?_
                                                            refine z_iconst (pc := 1210) hX dL_law_1210 ?_
                                                            refine z_iadd (pc := 1211) hX dL_law_1211 ?_
                                                            refine z_iald (pc := 1212) hX dL_law_1212 (fun v353 => ?_)
                                                            refine z_aload_n (pc := 1213) hX 0 dL_law_1213 rfl rfl ?_
                                                            refine z_iload_n (pc := 1214) hX 3 dL_law_1214 rfl rfl ?_
                                                            refine z_iconst (pc := 1215) hX dL_law_1215 ?_
                                                            refine z_iadd (pc := 1216) hX dL_law_1216 ?_
                                                            refine z_iald (pc := 1217) hX dL_law_1217 (fun v354 => ?_)
                                                            refine z_aload_n (pc := 1218) hX 0 dL_law_1218 rfl rfl ?_
                                                            refine z_iload_n (pc := 1219) hX 3 dL_law_1219 rfl rfl ?_
                                                            refine z_iconst (pc := 1220) hX dL_law_1220 ?_
                                                            refine z_iadd (pc := 1221) hX dL_law_1221 ?_
                                                            refine z_iald (pc := 1222) hX dL_law_1222 (fun v355 => ?_)
                                                            refine z_aload_n (pc := 1223) hX 0 dL_law_1223 rfl rfl ?_
                                                            refine z_iload_n (pc := 1224) hX 3 dL_law_1224 rfl rfl ?_
                                                            refine z_iconst (pc := 1225) hX dL_law_1225 ?_
                                                            refine z_iadd (pc := 1226) hX dL_law_1226 ?_
                                                            refine z_iald (pc := 1227) hX dL_law_1227 (fun v356 => ?_)
                                                            refine z_callV (n := 4) (st := [(1, v350)]) (pc := 1228) hX zc12 rfl (fun _ => (mX12_split _ hE _ _ _ _ _ _ _)) ⟨wd1403, wd67, wd1406, ⟨by decide, by decide, by decide⟩, by decide⟩ rfl wd1404 wd1405 rfl rfl (by decide) (Nat.le_of_ble_eq_true rfl) dL_law_1228 (fun v357 s358 r359 => ?_)
                                                            show Zj X G 1231 [(0, (2, u8)), (1, (2, u9)), (2, (2, u10)), (3, (0, x11))] [(1, v357), (1, v350)] _ _
                                                            refine z_lcmp (pc := 1231) hX dL_law_1231 ?_
                                                            refine z_if_eq (pc := 1232) hX 1521 dL_law_1232 (by decide) (fun h360 => ?_) (fun h360 => ?_)
                                                            · exact hK1521 _
                                                            · refine z_iconst (pc := 1235) hX dL_law_1235 ?_
                                                              exact z_none
                                                          · refine z_eq (if_neg h345) ?_
                                                            by_cases h361 : (iAnd v14 63) = 26
                                                            · refine z_eq (if_pos h361) ?_
                                                              refine z_tswIn (pc := 33) hX 1237 dL_law_33 h361 (by decide) (by decide) rfl (by decide) ?_
                                                              refine z_aload_n (pc := 1237) hX 1 dL_law_1237 rfl rfl ?_
                                                              refine z_aload_n (pc := 1238) hX 0 dL_law_1238 rfl rfl ?_
                                                              refine z_iload_n (pc := 1239) hX 3 dL_law_1239 rfl rfl ?_
                                                              refine z_iconst (pc := 1240) hX dL_law_1240 ?_
                                                              refine z_iadd (pc := 1241) hX dL_law_1241 ?_
                                                              refine z_iald (pc := 1242) hX dL_law_1242 (fun v362 => ?_)
                                                              refine z_callV (n := 1) (st := []) (pc := 1243) hX zc11 rfl (fun _ => (mX11_count _ hE _ _ _ _)) ⟨wd941, wd61, wd944, ⟨by decide, by decide, by decide⟩, by decide⟩ rfl wd942 wd943 rfl rfl (by decide) (Nat.le_of_ble_eq_true rfl) dL_law_1243 (fun v363 s364 r365 => ?_)
                                                              show Zj X G 1246 [(0, (2, u8)), (1, (2, u9)), (2, (2, u10)), (3, (0, x11))] [(0, v363)] _ _
                                                              refine z_aload_n (pc := 1246) hX 2 dL_law_1246 rfl rfl ?_
                                                              refine z_aload_n (pc := 1247) hX 0 dL_law_1247 rfl rfl ?_
                                                              refine z_iload_n (pc := 1248) hX 3 dL_law_1248 rfl rfl ?_
                                                              refine z_iconst (pc := 1249) hX dL_law_1249 ?_
                                                              refine z_iadd (pc := 1250) hX dL_law_1250 ?_
                                                              refine z_iald (pc := 1251) hX dL_law_1251 (fun v366 => ?_)
                                                              refine z_callV (n := 1) (st := [(0, v363)]) (pc := 1252) hX zc12 rfl (fun _ => (mX12_count _ hE _ _ _ _)) ⟨wd1407, wd67, wd1410, ⟨by decide, by decide, by decide⟩, by decide⟩ rfl wd1408 wd1409 rfl rfl (by decide) (Nat.le_of_ble_eq_true rfl) dL_law_1252 (fun v367 s368 r369 => ?_)
                                                              show Zj X G 1255 [(0, (2, u8)), (1, (2, u9)), (2, (2, u10)), (3, (0, x11))] [(0, v367), (0, v363)] _ _
                                                              refine z_icmp_eq (pc := 1255) hX 1521 dL_law_1255 (by decide) (fun h370 => ?_) (fun h370 => ?_)
                                                              · exact hK1521 _
                                                              · refine z_iconst (pc := 1258) hX dL_law_1258 ?_
                                                                exact z_none
                                                            · refine z_eq (if_neg h361) ?_
                                                              by_cases h371 : (iAnd v14 63) = 27
                                                              · refine z_eq (if_pos h371) ?_
                                                                refine z_tswIn (pc := 33) hX 1260 dL_law_33 h371 (by decide) (by decide) rfl (by decide) ?_
                                                                refine z_aload_n (pc := 1260) hX 1 dL_law_1260 rfl rfl ?_
                                                                refine z_callV (n := 0) (st := []) (pc := 1261) hX zc11 rfl (fun _ => (mX11_image _ hE _ _ _)) ⟨wd945, wd61, wd948, ⟨by decide, by decide, by decide⟩, by decide⟩ rfl wd946 wd947 rfl rfl (by decide) (Nat.le_of_ble_eq_true rfl) dL_law_1261 (fun v372 s373 r374 => ?_)
                                                                show Zj X G 1264 [(0, (2, u8)), (1, (2, u9)), (2, (2, u10)), (3, (0, x11))] [(0, v372)] _ _
                                                                refine z_aload_n (pc := 1264) hX 2 dL_law_1264 rfl rfl ?_
                                                                refine z_callV (n := 0) (st := [(0, v372)]) (pc := 1265) hX zc12 rfl (fun _ => (mX12_image _ hE _ _ _)) ⟨wd1411, wd67, wd1414, ⟨by decide, by decide, by decide⟩, by decide⟩ rfl wd1412 wd1413 rfl rfl (by decide) (Nat.le_of_ble_eq_true rfl) dL_law_1265 (fun v375 s376 r377 => ?_)
                                                                show Zj X G 1268 [(0, (2, u8)), (1, (2, u9)), (2, (2, u10)), (3, (0, x11))] [(0, v375), (0, v372)] _ _
                                                                refine z_icmp_eq (pc := 1268) hX 1521 dL_law_1268 (by decide) (fun h378 => ?_) (fun h378 => ?_)
                                                                · exact hK1521 _
                                                                · refine z_iconst (pc := 1271) hX dL_law_1271 ?_
                                                                  exact z_none
                                                              · refine z_eq (if_neg h371) ?_
                                                                by_cases h379 : (iAnd v14 63) = 28
                                                                · refine z_eq (if_pos h379) ?_
                                                                  refine z_tswIn (pc := 33) hX 1273 dL_law_33 h379 (by decide) (by decide) rfl (by decide) ?_
                                                                  refine z_aload_n (pc := 1273) hX 1 dL_law_1273 rfl rfl ?_
                                                                  refine z_callV (n := 0) (st := []) (pc := 1274) hX zc11 rfl (fun _ => (mX11_back _ hE _ _ _)) ⟨wd954, wd61, wd957, ⟨by decide, by decide, by decide⟩, by decide⟩ rfl wd955 wd956 rfl rfl (by decide) (Nat.le_of_ble_eq_true rfl) dL_law_1274 (fun v380 s381 r382 => ?_)
                                                                  show Zj X G 1277 [(0, (2, u8)), (1, (2, u9)), (2, (2, u10)), (3, (0, x11))] [(0, v380)] _ _
                                                                  refine z_aload_n (pc := 1277) hX 2 dL_law_1277 rfl rfl ?_
                                                                  refine z_callV (n := 0) (st := [(0, v380)]) (pc := 1278) hX zc12 rfl (fun _ => (mX12_back _ hE _ _ _)) ⟨wd1415, wd67, wd1418, ⟨by decide, by decide, by decide⟩, by decide⟩ rfl wd1416 wd1417 rfl rfl (by decide) (Nat.le_of_ble_eq_true rfl) dL_law_1278 (fun v383 s384 r385 => ?_)
                                                                  show Zj X G 1281 [(0, (2, u8)), (1, (2, u9)), (2, (2, u10)), (3, (0, x11))] [(0, v383), (0, v380)] _ _
                                                                  refine z_icmp_eq (pc := 1281) hX 1521 dL_law_1281 (by decide) (fun h386 => ?_) (fun h386 => ?_)
                                                                  · exact hK1521 _
                                                                  · refine z_iconst (pc := 1284) hX dL_law_1284 ?_
                                                                    exact z_none
                                                                · refine z_eq (if_neg h379) ?_
                                                                  by_cases h387 : (iAnd v14 63) = 29
                                                                  · refine z_eq (if_pos h387) ?_
                                                                    refine z_tswIn (pc := 33) hX 1286 dL_law_33 h387 (by decide) (by decide) rfl (by decide) ?_
                                                                    refine z_aload_n (pc := 1286) hX 1 dL_law_1286 rfl rfl ?_
                                                                    refine z_aload_n (pc := 1287) hX 0 dL_law_1287 rfl rfl ?_
                                                                    refine z_iload_n (pc := 1288) hX 3 dL_law_1288 rfl rfl ?_
                                                                    refine z_iconst (pc := 1289) hX dL_law_1289 ?_
                                                                    refine z_iadd (pc := 1290) hX dL_law_1290 ?_
                                                                    refine z_iald (pc := 1291) hX dL_law_1291 (fun v388 => ?_)
                                                                    refine z_aload_n (pc := 1292) hX 0 dL_law_1292 rfl rfl ?_
                                                                    refine z_iload_n (pc := 1293) hX 3 dL_law_1293 rfl rfl ?_
                                                                    refine z_iconst (pc := 1294) hX dL_law_1294 ?_
                                                                    refine z_iadd (pc := 1295) hX dL_law_1295 ?_
                                                                    refine z_iald (pc := 1296) hX dL_law_1296 (fun v389 => ?_)
                                                                    refine z_aload_n (pc := 1297) hX 0 dL_law_1297 rfl rfl ?_
                                                                    refine z_iload_n (pc := 1298) hX 3 dL_law_1298 rfl rfl ?_
                                                                    refine z_iconst (pc := 1299) hX dL_law_1299 ?_
                                                                    refine z_iadd (pc := 1300) hX dL_law_1300 ?_
                                                                    refine z_iald (pc := 1301) hX dL_law_1301 (fun v390 => ?_)
                                                                    refine z_callV (n := 3) (st := []) (pc := 1302) hX zc11 rfl (fun _ => (mX11_sheet _ hE _ _ _ _ _ _)) ⟨wd958, wd61, wd961, ⟨by decide, by decide, by decide⟩, by decide⟩ rfl wd959 wd960 rfl rfl (by decide) (Nat.le_of_ble_eq_true rfl) dL_law_1302 (fun v391 s392 r393 => ?_)
                                                                    show Zj X G 1305 [(0, (2, u8)), (1, (2, u9)), (2, (2, u10)), (3, (0, x11))] [(0, v391)] _ _
                                                                    refine z_aload_n (pc := 1305) hX 2 dL_law_1305 rfl rfl ?_
                                                                    refine z_aload_n (pc := 1306) hX 0 dL_law_1306 rfl rfl ?_
                                                                    refine z_iload_n (pc := 1307) hX 3 dL_law_1307 rfl rfl ?_
                                                                    refine z_iconst (pc := 1308) hX dL_law_1308 ?_
                                                                    refine z_iadd (pc := 1309) hX dL_law_1309 ?_
                                                                    refine z_iald (pc := 1310) hX dL_law_1310 (fun v394 => ?_)
                                                                    refine z_aload_n (pc := 1311) hX 0 dL_law_1311 rfl rfl ?_
                                                                    refine z_iload_n (pc := 1312) hX 3 dL_law_1312 rfl rfl ?_
                                                                    refine z_iconst (pc := 1313) hX dL_law_1313 ?_
                                                                    refine z_iadd (pc := 1314) hX dL_law_1314 ?_
                                                                    refine z_iald (pc := 1315) hX dL_law_1315 (fun v395 => ?_)
                                                                    refine z_aload_n (pc := 1316) hX 0 dL_law_1316 rfl rfl ?_
                                                                    refine z_iload_n (pc := 1317) hX 3 dL_law_1317 rfl rfl ?_
                                                                    refine z_iconst (pc := 1318) hX dL_law_1318 ?_
                                                                    refine z_iadd (pc := 1319) hX dL_law_1319 ?_
                                                                    refine z_iald (pc := 1320) hX dL_law_1320 (fun v396 => ?_)
                                                                    refine z_callV (n := 3) (st := [(0, v391)]) (pc := 1321) hX zc12 rfl (fun _ => (mX12_sheet _ hE _ _ _ _ _ _)) ⟨wd1419, wd67, wd1422, ⟨by decide, by decide, by decide⟩, by decide⟩ rfl wd1420 wd1421 rfl rfl (by decide) (Nat.le_of_ble_eq_true rfl) dL_law_1321 (fun v397 s398 r399 => ?_)
                                                                    show Zj X G 1324 [(0, (2, u8)), (1, (2, u9)), (2, (2, u10)), (3, (0, x11))] [(0, v397), (0, v391)] _ _
                                                                    refine z_icmp_eq (pc := 1324) hX 1521 dL_law_1324 (by decide) (fun h400 => ?_) (fun h400 => ?_)
                                                                    · exact hK1521 _
                                                                    · refine z_iconst (pc := 1327) hX dL_law_1327 ?_
                                                                      exact z_none
                                                                  · refine z_eq (if_neg h387) ?_
                                                                    by_cases h401 : (iAnd v14 63) = 30
                                                                    · refine z_eq (if_pos h401) ?_
                                                                      refine z_tswIn (pc := 33) hX 1329 dL_law_33 h401 (by decide) (by decide) rfl (by decide) ?_
                                                                      refine z_aload_n (pc := 1329) hX 1 dL_law_1329 rfl rfl ?_
                                                                      refine z_aload_n (pc := 1330) hX 0 dL_law_1330 rfl rfl ?_
                                                                      refine z_iload_n (pc := 1331) hX 3 dL_law_1331 rfl rfl ?_
                                                                      refine z_iconst (pc := 1332) hX dL_law_1332 ?_
                                                                      refine z_iadd (pc := 1333) hX dL_law_1333 ?_
                                                                      refine z_iald (pc := 1334) hX dL_law_1334 (fun v402 => ?_)
                                                                      refine z_aload_n (pc := 1335) hX 0 dL_law_1335 rfl rfl ?_
                                                                      refine z_iload_n (pc := 1336) hX 3 dL_law_1336 rfl rfl ?_
                                                                      refine z_iconst (pc := 1337) hX dL_law_1337 ?_
                                                                      refine z_iadd (pc := 1338) hX dL_law_1338 ?_
                                                                      refine z_iald (pc := 1339) hX dL_law_1339 (fun v403 => ?_)
                                                                      refine z_aload_n (pc := 1340) hX 0 dL_law_1340 rfl rfl ?_
                                                                      refine z_iload_n (pc := 1341) hX 3 dL_law_1341 rfl rfl ?_
                                                                      refine z_iconst (pc := 1342) hX dL_law_1342 ?_
                                                                      refine z_iadd (pc := 1343) hX dL_law_1343 ?_
                                                                      refine z_iald (pc := 1344) hX dL_law_1344 (fun v404 => ?_)
                                                                      refine z_callV (n := 3) (st := []) (pc := 1345) hX zc11 rfl (fun _ => (mX11_cell _ hE _ _ _ _ _ _)) ⟨wd966, wd61, wd969, ⟨by decide, by decide, by decide⟩, by decide⟩ rfl wd967 wd968 rfl rfl (by decide) (Nat.le_of_ble_eq_true rfl) dL_law_1345 (fun v405 s406 r407 => ?_)
                                                                      show Zj X G 1348 [(0, (2, u8)), (1, (2, u9)), (2, (2, u10)), (3, (0, x11))] [(0, v405)] _ _
                                                                      refine z_aload_n (pc := 1348) hX 2 dL_law_1348 rfl rfl ?_
                                                                      refine z_aload_n (pc := 1349) hX 0 dL_law_1349 rfl rfl ?_
                                                                      refine z_iload_n (pc := 1350) hX 3 dL_law_1350 rfl rfl ?_
                                                                      refine z_iconst (pc := 1351) hX dL_law_1351 ?_
                                                                      refine z_iadd (pc := 1352) hX dL_law_1352 ?_
                                                                      refine z_iald (pc := 1353) hX dL_law_1353 (fun v408 => ?_)
                                                                      refine z_aload_n (pc := 1354) hX 0 dL_law_1354 rfl rfl ?_
                                                                      refine z_iload_n (pc := 1355) hX 3 dL_law_1355 rfl rfl ?_
                                                                      refine z_iconst (pc := 1356) hX dL_law_1356 ?_
                                                                      refine z_iadd (pc := 1357) hX dL_law_1357 ?_
                                                                      refine z_iald (pc := 1358) hX dL_law_1358 (fun v409 => ?_)
                                                                      refine z_aload_n (pc := 1359) hX 0 dL_law_1359 rfl rfl ?_
                                                                      refine z_iload_n (pc := 1360) hX 3 dL_law_1360 rfl rfl ?_
                                                                      refine z_iconst (pc := 1361) hX dL_law_1361 ?_
                                                                      refine z_iadd (pc := 1362) hX dL_law_1362 ?_
                                                                      refine z_iald (pc := 1363) hX dL_law_1363 (fun v410 => ?_)
                                                                      refine z_callV (n := 3) (st := [(0, v405)]) (pc := 1364) hX zc12 rfl (fun _ => (mX12_cell _ hE _ _ _ _ _ _)) ⟨wd1423, wd67, wd1426, ⟨by decide, by decide, by decide⟩, by decide⟩ rfl wd1424 wd1425 rfl rfl (by decide) (Nat.le_of_ble_eq_true rfl) dL_law_1364 (fun v411 s412 r413 => ?_)
                                                                      show Zj X G 1367 [(0, (2, u8)), (1, (2, u9)), (2, (2, u10)), (3, (0, x11))] [(0, v411), (0, v405)] _ _
                                                                      refine z_icmp_eq (pc := 1367) hX 1521 dL_law_1367 (by decide) (fun h414 => ?_) (fun h414 => ?_)
                                                                      · exact hK1521 _
                                                                      · refine z_iconst (pc := 1370) hX dL_law_1370 ?_
                                                                        exact z_none
                                                                    · refine z_eq (if_neg h401) ?_
                                                                      by_cases h415 : (iAnd v14 63) = 31
                                                                      · refine z_eq (if_pos h415) ?_
                                                                        refine z_tswIn (pc := 33) hX 1372 dL_law_33 h415 (by decide) (by decide) rfl (by decide) ?_
                                                                        refine z_aload_n (pc := 1372) hX 1 dL_law_1372 rfl rfl ?_
                                                                        refine z_aload_n (pc := 1373) hX 0 dL_law_1373 rfl rfl ?_
                                                                        refine z_iload_n (pc := 1374) hX 3 dL_law_1374 rfl rfl ?_
                                                                        refine z_iconst (pc := 1375) hX dL_law_1375 ?_
                                                                        refine z_iadd (pc := 1376) hX dL_law_1376 ?_
                                                                        refine z_iald (pc := 1377) hX dL_law_1377 (fun v416 => ?_)
                                                                        refine z_aload_n (pc := 1378) hX 0 dL_law_1378 rfl rfl ?_
                                                                        refine z_iload_n (pc := 1379) hX 3 dL_law_1379 rfl rfl ?_
                                                                        refine z_iconst (pc := 1380) hX dL_law_1380 ?_
                                                                        refine z_iadd (pc := 1381) hX dL_law_1381 ?_
                                                                        refine z_iald (pc := 1382) hX dL_law_1382 (fun v417 => ?_)
                                                                        refine z_aload_n (pc := 1383) hX 0 dL_law_1383 rfl rfl ?_
                                                                        refine z_iload_n (pc := 1384) hX 3 dL_law_1384 rfl rfl ?_
                                                                        refine z_iconst (pc := 1385) hX dL_law_1385 ?_
                                                                        refine z_iadd (pc := 1386) hX dL_law_1386 ?_
                                                                        refine z_iald (pc := 1387) hX dL_law_1387 (fun v418 => ?_)
                                                                        refine z_aload_n (pc := 1388) hX 0 dL_law_1388 rfl rfl ?_
                                                                        refine z_iload_n (pc := 1389) hX 3 dL_law_1389 rfl rfl ?_
                                                                        refine z_iconst (pc := 1390) hX dL_law_1390 ?_
                                                                        refine z_iadd (pc := 1391) hX dL_law_1391 ?_
                                                                        refine z_iald (pc := 1392) hX dL_law_1392 (fun v419 => ?_)
                                                                        refine z_aload_n (pc := 1393) hX 0 dL_law_1393 rfl rfl ?_
                                                                        refine z_iload_n (pc := 1394) hX 3 dL_law_1394 rfl rfl ?_
                                                                        refine z_iconst (pc := 1395) hX dL_law_1395 ?_
                                                                        refine z_iadd (pc := 1396) hX dL_law_1396 ?_
                                                                        refine z_iald (pc := 1397) hX dL_law_1397 (fun v420 => ?_)
                                                                        refine z_callV (n := 5) (st := []) (pc := 1398) hX zc11 rfl (fun _ => (mX11_copy _ hE _ _ _ _ _ _ _ _)) ⟨wd974, wd61, wd977, ⟨by decide, by decide, by decide⟩, by decide⟩ rfl wd975 wd976 rfl rfl (by decide) (Nat.le_of_ble_eq_true rfl) dL_law_1398 (fun v421 s422 r423 => ?_)
                                                                        show Zj X G 1401 [(0, (2, u8)), (1, (2, u9)), (2, (2, u10)), (3, (0, x11))] [(0, v421)] _ _
                                                                        refine z_aload_n (pc := 1401) hX 2 dL_law_1401 rfl rfl ?_
                                                                        refine z_aload_n (pc := 1402) hX 0 dL_law_1402 rfl rfl ?_
                                                                        refine z_iload_n (pc := 1403) hX 3 dL_law_1403 rfl rfl ?_
                                                                        refine z_iconst (pc := 1404) hX dL_law_1404 ?_
                                                                        refine z_iadd (pc := 1405) hX dL_law_1405 ?_
                                                                        refine z_iald (pc := 1406) hX dL_law_1406 (fun v424 => ?_)
                                                                        refine z_aload_n (pc := 1407) hX 0 dL_law_1407 rfl rfl ?_
                                                                        refine z_iload_n (pc := 1408) hX 3 dL_law_1408 rfl rfl ?_
                                                                        refine z_iconst (pc := 1409) hX dL_law_1409 ?_
                                                                        refine z_iadd (pc := 1410) hX dL_law_1410 ?_
                                                                        refine z_iald (pc := 1411) hX dL_law_1411 (fun v425 => ?_)
                                                                        refine z_aload_n (pc := 1412) hX 0 dL_law_1412 rfl rfl ?_
                                                                        refine z_iload_n (pc := 1413) hX 3 dL_law_1413 rfl rfl ?_
                                                                        refine z_iconst (pc := 1414) hX dL_law_1414 ?_
                                                                        refine z_iadd (pc := 1415) hX dL_law_1415 ?_
                                                                        refine z_iald (pc := 1416) hX dL_law_1416 (fun v426 => ?_)
                                                                        refine z_aload_n (pc := 1417) hX 0 dL_law_1417 rfl rfl ?_
                                                                        refine z_iload_n (pc := 1418) hX 3 dL_law_1418 rfl rfl ?_
                                                                        refine z_iconst (pc := 1419) hX dL_law_1419 ?_
                                                                        refine z_iadd (pc := 1420) hX dL_law_1420 ?_
                                                                        refine z_iald (pc := 1421) hX dL_law_1421 (fun v427 => ?_)
                                                                        refine z_aload_n (pc := 1422) hX 0 dL_law_1422 rfl rfl ?_
                                                                        refine z_iload_n (pc := 1423) hX 3 dL_law_1423 rfl rfl ?_
                                                                        refine z_iconst (pc := 1424) hX dL_law_1424 ?_
                                                                        refine z_iadd (pc := 1425) hX dL_law_1425 ?_
                                                                        refine z_iald (pc := 1426) hX dL_law_1426 (fun v428 => ?_)
                                                                        refine z_callV (n := 5) (st := [(0, v421)]) (pc := 1427) hX zc12 rfl (fun _ => (mX12_copy _ hE _ _ _ _ _ _ _ _)) ⟨wd1427, wd67, wd1430, ⟨by decide, by decide, by decide⟩, by decide⟩ rfl wd1428 wd1429 rfl rfl (by decide) (Nat.le_of_ble_eq_true rfl) dL_law_1427 (fun v429 s430 r431 => ?_)
                                                                        show Zj X G 1430 [(0, (2, u8)), (1, (2, u9)), (2, (2, u10)), (3, (0, x11))] [(0, v429), (0, v421)] _ _
                                                                        refine z_icmp_eq (pc := 1430) hX 1521 dL_law_1430 (by decide) (fun h432 => ?_) (fun h432 => ?_)
                                                                        · exact hK1521 _
                                                                        · refine z_iconst (pc := 1433) hX dL_law_1433 ?_
                                                                          exact z_none
                                                                      · refine z_eq (if_neg h415) ?_
                                                                        by_cases h433 : (iAnd v14 63) = 32
                                                                        · refine z_eq (if_pos h433) ?_
                                                                          refine z_tswIn (pc := 33) hX 1435 dL_law_33 h433 (by decide) (by decide) rfl (by decide) ?_
                                                                          refine z_aload_n (pc := 1435) hX 1 dL_law_1435 rfl rfl ?_
                                                                          refine z_aload_n (pc := 1436) hX 0 dL_law_1436 rfl rfl ?_
                                                                          refine z_iload_n (pc := 1437) hX 3 dL_law_1437 rfl rfl ?_
                                                                          refine z_iconst (pc := 1438) hX dL_law_1438 ?_
                                                                          refine z_iadd (pc := 1439) hX dL_law_1439 ?_
                                                                          refine z_iald (pc := 1440) hX dL_law_1440 (fun v434 => ?_)
                                                                          refine z_aload_n (pc := 1441) hX 0 dL_law_1441 rfl rfl ?_
                                                                          refine z_iload_n (pc := 1442) hX 3 dL_law_1442 rfl rfl ?_
                                                                          refine z_iconst (pc := 1443) hX dL_law_1443 ?_
                                                                          refine z_iadd (pc := 1444) hX dL_law_1444 ?_
                                                                          refine z_iald (pc := 1445) hX dL_law_1445 (fun v435 => ?_)
                                                                          refine z_aload_n (pc := 1446) hX 0 dL_law_1446 rfl rfl ?_
                                                                          refine z_iload_n (pc := 1447) hX 3 dL_law_1447 rfl rfl ?_
                                                                          refine z_iconst (pc := 1448) hX dL_law_1448 ?_
                                                                          refine z_iadd (pc := 1449) hX dL_law_1449 ?_
                                                                          refine z_iald (pc := 1450) hX dL_law_1450 (fun v436 => ?_)
                                                                          refine z_aload_n (pc := 1451) hX 0 dL_law_1451 rfl rfl ?_
                                                                          refine z_iload_n (pc := 1452) hX 3 dL_law_1452 rfl rfl ?_
                                                                          refine z_iconst (pc := 1453) hX dL_law_1453 ?_
                                                                          refine z_iadd (pc := 1454) hX dL_law_1454 ?_
                                                                          refine z_iald (pc := 1455) hX dL_law_1455 (fun v437 => ?_)
                                                                          refine z_callV (n := 4) (st := []) (pc := 1456) hX zc11 rfl (fun _ => (mX11_rates _ hE _ _ _ _ _ _ _)) ⟨wd982, wd61, wd985, ⟨by decide, by decide, by decide⟩, by decide⟩ rfl wd983 wd984 rfl rfl (by decide) (Nat.le_of_ble_eq_true rfl) dL_law_1456 (fun v438 s439 r440 => ?_)
                                                                          show Zj X G 1459 [(0, (2, u8)), (1, (2, u9)), (2, (2, u10)), (3, (0, x11))] [(0, v438)] _ _
                                                                          refine z_aload_n (pc := 1459) hX 2 dL_law_1459 rfl rfl ?_
                                                                          refine z_aload_n (pc := 1460) hX 0 dL_law_1460 rfl rfl ?_
                                                                          refine z_iload_n (pc := 1461) hX 3 dL_law_1461 rfl rfl ?_
                                                                          refine z_iconst (pc := 1462) hX dL_law_1462 ?_
                                                                          refine z_iadd (pc := 1463) hX dL_law_1463 ?_
                                                                          refine z_iald (pc := 1464) hX dL_law_1464 (fun v441 => ?_)
                                                                          refine z_aload_n (pc := 1465) hX 0 dL_law_1465 rfl rfl ?_
                                                                          refine z_iload_n (pc := 1466) hX 3 dL_law_1466 rfl rfl ?_
                                                                          refine z_iconst (pc := 1467) hX dL_law_1467 ?_
                                                                          refine z_iadd (pc := 1468) hX dL_law_1468 ?_
                                                                          refine z_iald (pc := 1469) hX dL_law_1469 (fun v442 => ?_)
                                                                          refine z_aload_n (pc := 1470) hX 0 dL_law_1470 rfl rfl ?_
                                                                          refine z_iload_n (pc := 1471) hX 3 dL_law_1471 rfl rfl ?_
                                                                          refine z_iconst (pc := 1472) hX dL_law_1472 ?_
                                                                          refine z_iadd (pc := 1473) hX dL_law_1473 ?_
                                                                          refine z_iald (pc := 1474) hX dL_law_1474 (fun v443 => ?_)
                                                                          refine z_aload_n (pc := 1475) hX 0 dL_law_1475 rfl rfl ?_
                                                                          refine z_iload_n (pc := 1476) hX 3 dL_law_1476 rfl rfl ?_
                                                                          refine z_iconst (pc := 1477) hX dL_law_1477 ?_
                                                                          refine z_iadd (pc := 1478) hX dL_law_1478 ?_
                                                                          refine z_iald (pc := 1479) hX dL_law_1479 (fun v444 => ?_)
                                                                          refine z_callV (n := 4) (st := [(0, v438)]) (pc := 1480) hX zc12 rfl (fun _ => (mX12_rates _ hE _ _ _ _ _ _ _)) ⟨wd1431, wd67, wd1434, ⟨by decide, by decide, by decide⟩, by decide⟩ rfl wd1432 wd1433 rfl rfl (by decide) (Nat.le_of_ble_eq_true rfl) dL_law_1480 (fun v445 s446 r447 => ?_)
                                                                          show Zj X G 1483 [(0, (2, u8)), (1, (2, u9)), (2, (2, u10)), (3, (0, x11))] [(0, v445), (0, v438)] _ _
                                                                          refine z_icmp_eq (pc := 1483) hX 1521 dL_law_1483 (by decide) (fun h448 => ?_) (fun h448 => ?_)
                                                                          · exact hK1521 _
                                                                          · refine z_iconst (pc := 1486) hX dL_law_1486 ?_
                                                                            exact z_none
                                                                        · refine z_eq (if_neg h433) ?_
                                                                          by_cases h449 : (iAnd v14 63) = 33
                                                                          · refine z_eq (if_pos h449) ?_
                                                                            refine z_tswIn (pc := 33) hX 1488 dL_law_33 h449 (by decide) (by decide) rfl (by decide) ?_
                                                                            refine z_aload_n (pc := 1488) hX 1 dL_law_1488 rfl rfl ?_
                                                                            refine z_aload_n (pc := 1489) hX 0 dL_law_1489 rfl rfl ?_
                                                                            refine z_iload_n (pc := 1490) hX 3 dL_law_1490 rfl rfl ?_
                                                                            refine z_iconst (pc := 1491) hX dL_law_1491 ?_
                                                                            refine z_iadd (pc := 1492) hX dL_law_1492 ?_
                                                                            refine z_iald (pc := 1493) hX dL_law_1493 (fun v450 => ?_)
                                                                            refine z_aload_n (pc := 1494) hX 0 dL_law_1494 rfl rfl ?_
                                                                            refine z_iload_n (pc := 1495) hX 3 dL_law_1495 rfl rfl ?_
                                                                            refine z_iconst (pc := 1496) hX dL_law_1496 ?_
                                                                            refine z_iadd (pc := 1497) hX dL_law_1497 ?_
                                                                            refine z_iald (pc := 1498) hX dL_law_1498 (fun v451 => ?_)
                                                                            refine z_callV (n := 2) (st := []) (pc := 1499) hX zc11 rfl (fun _ => (mX11_taken _ hE _ _ _ _ _)) ⟨wd987, wd61, wd990, ⟨by decide, by decide, by decide⟩, by decide⟩ rfl wd988 wd989 rfl rfl (by decide) (Nat.le_of_ble_eq_true rfl) dL_law_1499 (fun v452 s453 r454 => ?_)
                                                                            show Zj X G 1502 [(0, (2, u8)), (1, (2, u9)), (2, (2, u10)), (3, (0, x11))] [(0, v452)] _ _
                                                                            refine z_aload_n (pc := 1502) hX 2 dL_law_1502 rfl rfl ?_
                                                                            refine z_aload_n (pc := 1503) hX 0 dL_law_1503 rfl rfl ?_
                                                                            refine z_iload_n (pc := 1504) hX 3 dL_law_1504 rfl rfl ?_
                                                                            refine z_iconst (pc := 1505) hX dL_law_1505 ?_
                                                                            refine z_iadd (pc := 1506) hX dL_law_1506 ?_
                                                                            refine z_iald (pc := 1507) hX dL_law_1507 (fun v455 => ?_)
                                                                            refine z_aload_n (pc := 1508) hX 0 dL_law_1508 rfl rfl ?_
                                                                            refine z_iload_n (pc := 1509) hX 3 dL_law_1509 rfl rfl ?_
                                                                            refine z_iconst (pc := 1510) hX dL_law_1510 ?_
                                                                            refine z_iadd (pc := 1511) hX dL_law_1511 ?_
                                                                            refine z_iald (pc := 1512) hX dL_law_1512 (fun v456 => ?_)
                                                                            refine z_callV (n := 2) (st := [(0, v452)]) (pc := 1513) hX zc12 rfl (fun _ => (mX12_taken _ hE _ _ _ _ _)) ⟨wd1436, wd67, wd1439, ⟨by decide, by decide, by decide⟩, by decide⟩ rfl wd1437 wd1438 rfl rfl (by decide) (Nat.le_of_ble_eq_true rfl) dL_law_1513 (fun v457 s458 r459 => ?_)
                                                                            show Zj X G 1516 [(0, (2, u8)), (1, (2, u9)), (2, (2, u10)), (3, (0, x11))] [(0, v457), (0, v452)] _ _
                                                                            refine z_icmp_eq (pc := 1516) hX 1521 dL_law_1516 (by decide) (fun h460 => ?_) (fun h460 => ?_)
                                                                            · exact hK1521 _
                                                                            · refine z_iconst (pc := 1519) hX dL_law_1519 ?_
                                                                              exact z_none
                                                                          · refine z_eq (if_neg h449) ?_
                                                                            refine z_tswOut (pc := 33) hX 1521 dL_law_33 (by omega) (by decide) ?_
                                                                            exact hK1521 _
  refine z_pick (lv' := [(0, (2, a0)), (1, (2, (sN s0 : Int))), (2, (2, (sN s2 : Int))), (3, (0, 0))]) [3, 2, 1, 0] rfl ?_
  refine hl18 _ _ _ 1000 _ _
