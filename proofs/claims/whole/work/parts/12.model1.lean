theorem kw1314 : Cond.methodLink RX9 152 yJ0_length_8abf5 ∈ lwX := kw 1314 (by decide +kernel) (by decide +kernel)
theorem kw1618 : Cond.fieldLink RX9 28 (TX9 8).1 (TX9 8).2.1 (TX9 8).2.2.1 ∈ lwX := kw 1618 (by decide +kernel) (by decide +kernel)
theorem kw1621 : Cond.fieldLink RX9 157 (TX9 11).1 (TX9 11).2.1 (TX9 11).2.2.1 ∈ lwX := kw 1621 (by decide +kernel) (by decide +kernel)
theorem kw1315 : Cond.methodLink RX9 160 yJ0_charAt_5068e ∈ lwX := kw 1315 (by decide +kernel) (by decide +kernel)
theorem kw1629 : Cond.fieldLink RX9 164 (TX9 19).1 (TX9 19).2.1 (TX9 19).2.2.1 ∈ lwX := kw 1629 (by decide +kernel) (by decide +kernel)
theorem kw1628 : Cond.fieldLink RX9 167 (TX9 18).1 (TX9 18).2.1 (TX9 18).2.2.1 ∈ lwX := kw 1628 (by decide +kernel) (by decide +kernel)
theorem kw1325 : Cond.methodLink RX9 173 yX9_sortOf ∈ lwX := kw 1325 (by decide +kernel) (by decide +kernel)
theorem kw1326 : Cond.static yX9_sortOf ∈ lwX := kw 1326 (by decide +kernel) (by decide +kernel)
theorem kw125 : Cond.initialized RX9 ∈ lwX := kw 125 (by decide +kernel) (by decide +kernel)
theorem kw1327 : Cond.code yX9_sortOf cX9_sortOf 1 (some .int) ∈ lwX := kw 1327 (by decide +kernel) (by decide +kernel)
theorem kw1627 : Cond.fieldLink RX9 170 (TX9 17).1 (TX9 17).2.1 (TX9 17).2.2.1 ∈ lwX := kw 1627 (by decide +kernel) (by decide +kernel)
theorem kw1630 : Cond.fieldLink RX9 176 (TX9 20).1 (TX9 20).2.1 (TX9 20).2.2.1 ∈ lwX := kw 1630 (by decide +kernel) (by decide +kernel)
theorem kw1622 : Cond.fieldLink RX9 179 (TX9 12).1 (TX9 12).2.1 (TX9 12).2.2.1 ∈ lwX := kw 1622 (by decide +kernel) (by decide +kernel)
theorem kw1623 : Cond.fieldLink RX9 34 (TX9 13).1 (TX9 13).2.1 (TX9 13).2.2.1 ∈ lwX := kw 1623 (by decide +kernel) (by decide +kernel)
theorem kw1337 : Cond.methodLink RX9 182 yX9_fail ∈ lwX := kw 1337 (by decide +kernel) (by decide +kernel)
theorem kw1339 : Cond.instanceMethod yX9_fail ∈ lwX := kw 1339 (by decide +kernel) (by decide +kernel)
theorem kw33 : Cond.selects RX9 yX9_fail yX9_fail ∈ lwX := kw 33 (by decide +kernel) (by decide +kernel)
theorem kw1340 : Cond.code yX9_fail cX9_fail 2 (some .boolean) ∈ lwX := kw 1340 (by decide +kernel) (by decide +kernel)
theorem kw1333 : Cond.methodLink RX9 269 yX9_says ∈ lwX := kw 1333 (by decide +kernel) (by decide +kernel)
theorem kw1335 : Cond.instanceMethod yX9_says ∈ lwX := kw 1335 (by decide +kernel) (by decide +kernel)
theorem kw32 : Cond.selects RX9 yX9_says yX9_says ∈ lwX := kw 32 (by decide +kernel) (by decide +kernel)
theorem kw1336 : Cond.code yX9_says cX9_says 3 (some .boolean) ∈ lwX := kw 1336 (by decide +kernel) (by decide +kernel)
theorem kw1359 : Cond.methodLink RX9 282 yX9_laterWord ∈ lwX := kw 1359 (by decide +kernel) (by decide +kernel)
theorem kw1361 : Cond.instanceMethod yX9_laterWord ∈ lwX := kw 1361 (by decide +kernel) (by decide +kernel)
theorem kw37 : Cond.selects RX9 yX9_laterWord yX9_laterWord ∈ lwX := kw 37 (by decide +kernel) (by decide +kernel)
theorem kw1362 : Cond.code yX9_laterWord cX9_laterWord 1 (some .int) ∈ lwX := kw 1362 (by decide +kernel) (by decide +kernel)
theorem kw1341 : Cond.methodLink RX9 185 yX9_is ∈ lwX := kw 1341 (by decide +kernel) (by decide +kernel)
theorem kw1343 : Cond.instanceMethod yX9_is ∈ lwX := kw 1343 (by decide +kernel) (by decide +kernel)
theorem kw34 : Cond.selects RX9 yX9_is yX9_is ∈ lwX := kw 34 (by decide +kernel) (by decide +kernel)
theorem kw1344 : Cond.code yX9_is cX9_is 2 (some .boolean) ∈ lwX := kw 1344 (by decide +kernel) (by decide +kernel)
theorem kw1378 : Cond.methodLink RX9 60 yX9_in ∈ lwX := kw 1378 (by decide +kernel) (by decide +kernel)
theorem kw1379 : Cond.static yX9_in ∈ lwX := kw 1379 (by decide +kernel) (by decide +kernel)
theorem kw1380 : Cond.code yX9_in cX9_in 3 (some .boolean) ∈ lwX := kw 1380 (by decide +kernel) (by decide +kernel)
theorem kw1632 : Cond.fieldLink RX9 42 (TX9 22).1 (TX9 22).2.1 (TX9 22).2.2.1 ∈ lwX := kw 1632 (by decide +kernel) (by decide +kernel)
theorem kw1321 : Cond.methodLink RX9 188 yX9_next ∈ lwX := kw 1321 (by decide +kernel) (by decide +kernel)
theorem kw1323 : Cond.instanceMethod yX9_next ∈ lwX := kw 1323 (by decide +kernel) (by decide +kernel)
theorem kw30 : Cond.selects RX9 yX9_next yX9_next ∈ lwX := kw 30 (by decide +kernel) (by decide +kernel)
theorem kw1324 : Cond.code yX9_next cX9_next 2 none ∈ lwX := kw 1324 (by decide +kernel) (by decide +kernel)
theorem kw1610 : Cond.fieldLink RX9 7 (TX9 0).1 (TX9 0).2.1 (TX9 0).2.2.1 ∈ lwX := kw 1610 (by decide +kernel) (by decide +kernel)
theorem kw1374 : Cond.methodLink RX9 191 yX9_number ∈ lwX := kw 1374 (by decide +kernel) (by decide +kernel)
theorem kw1376 : Cond.instanceMethod yX9_number ∈ lwX := kw 1376 (by decide +kernel) (by decide +kernel)
theorem kw39 : Cond.selects RX9 yX9_number yX9_number ∈ lwX := kw 39 (by decide +kernel) (by decide +kernel)
theorem kw1377 : Cond.code yX9_number cX9_number 4 (some .boolean) ∈ lwX := kw 1377 (by decide +kernel) (by decide +kernel)
theorem kw1389 : Cond.methodLink RX9 194 yX9_stops ∈ lwX := kw 1389 (by decide +kernel) (by decide +kernel)
theorem kw1391 : Cond.instanceMethod yX9_stops ∈ lwX := kw 1391 (by decide +kernel) (by decide +kernel)
theorem kw42 : Cond.selects RX9 yX9_stops yX9_stops ∈ lwX := kw 42 (by decide +kernel) (by decide +kernel)
theorem kw1392 : Cond.code yX9_stops cX9_stops 2 (some .boolean) ∈ lwX := kw 1392 (by decide +kernel) (by decide +kernel)
theorem kw1393 : Cond.methodLink RX9 198 yX9_builds ∈ lwX := kw 1393 (by decide +kernel) (by decide +kernel)
theorem kw1395 : Cond.instanceMethod yX9_builds ∈ lwX := kw 1395 (by decide +kernel) (by decide +kernel)
theorem kw43 : Cond.selects RX9 yX9_builds yX9_builds ∈ lwX := kw 43 (by decide +kernel) (by decide +kernel)
theorem kw1396 : Cond.code yX9_builds cX9_builds 2 (some .int) ∈ lwX := kw 1396 (by decide +kernel) (by decide +kernel)
theorem kw1401 : Cond.methodLink RX9 201 yX9_chimneyAt ∈ lwX := kw 1401 (by decide +kernel) (by decide +kernel)
theorem kw1403 : Cond.instanceMethod yX9_chimneyAt ∈ lwX := kw 1403 (by decide +kernel) (by decide +kernel)
theorem kw45 : Cond.selects RX9 yX9_chimneyAt yX9_chimneyAt ∈ lwX := kw 45 (by decide +kernel) (by decide +kernel)
theorem kw1404 : Cond.code yX9_chimneyAt cX9_chimneyAt 2 (some .boolean) ∈ lwX := kw 1404 (by decide +kernel) (by decide +kernel)
theorem kw1405 : Cond.methodLink RX9 204 yX9_another ∈ lwX := kw 1405 (by decide +kernel) (by decide +kernel)
theorem kw1407 : Cond.instanceMethod yX9_another ∈ lwX := kw 1407 (by decide +kernel) (by decide +kernel)
theorem kw46 : Cond.selects RX9 yX9_another yX9_another ∈ lwX := kw 46 (by decide +kernel) (by decide +kernel)
theorem kw1408 : Cond.code yX9_another cX9_another 2 (some .boolean) ∈ lwX := kw 1408 (by decide +kernel) (by decide +kernel)
theorem kw1409 : Cond.methodLink RX9 207 yX9_lays ∈ lwX := kw 1409 (by decide +kernel) (by decide +kernel)
theorem kw1411 : Cond.instanceMethod yX9_lays ∈ lwX := kw 1411 (by decide +kernel) (by decide +kernel)
theorem kw47 : Cond.selects RX9 yX9_lays yX9_lays ∈ lwX := kw 47 (by decide +kernel) (by decide +kernel)
theorem kw1412 : Cond.code yX9_lays cX9_lays 5 (some .int) ∈ lwX := kw 1412 (by decide +kernel) (by decide +kernel)
theorem kw1429 : Cond.methodLink RX9 64 yX9_of ∈ lwX := kw 1429 (by decide +kernel) (by decide +kernel)
theorem kw1431 : Cond.instanceMethod yX9_of ∈ lwX := kw 1431 (by decide +kernel) (by decide +kernel)
theorem kw52 : Cond.selects RX9 yX9_of yX9_of ∈ lwX := kw 52 (by decide +kernel) (by decide +kernel)
theorem kw1432 : Cond.code yX9_of cX9_of 3 (some .int) ∈ lwX := kw 1432 (by decide +kernel) (by decide +kernel)
theorem kw1425 : Cond.methodLink RX9 87 yX9_sitter ∈ lwX := kw 1425 (by decide +kernel) (by decide +kernel)
theorem kw1427 : Cond.instanceMethod yX9_sitter ∈ lwX := kw 1427 (by decide +kernel) (by decide +kernel)
theorem kw51 : Cond.selects RX9 yX9_sitter yX9_sitter ∈ lwX := kw 51 (by decide +kernel) (by decide +kernel)
theorem kw1428 : Cond.code yX9_sitter cX9_sitter 3 (some .int) ∈ lwX := kw 1428 (by decide +kernel) (by decide +kernel)
theorem kw1437 : Cond.methodLink RX9 118 yX9_to ∈ lwX := kw 1437 (by decide +kernel) (by decide +kernel)
theorem kw1439 : Cond.instanceMethod yX9_to ∈ lwX := kw 1439 (by decide +kernel) (by decide +kernel)
theorem kw54 : Cond.selects RX9 yX9_to yX9_to ∈ lwX := kw 54 (by decide +kernel) (by decide +kernel)
theorem kw1440 : Cond.code yX9_to cX9_to 4 none ∈ lwX := kw 1440 (by decide +kernel) (by decide +kernel)
theorem kw1417 : Cond.methodLink RX9 210 yX9_sizesAt ∈ lwX := kw 1417 (by decide +kernel) (by decide +kernel)
theorem kw1419 : Cond.instanceMethod yX9_sizesAt ∈ lwX := kw 1419 (by decide +kernel) (by decide +kernel)
theorem kw49 : Cond.selects RX9 yX9_sizesAt yX9_sizesAt ∈ lwX := kw 49 (by decide +kernel) (by decide +kernel)
theorem kw1420 : Cond.code yX9_sizesAt cX9_sizesAt 2 (some .boolean) ∈ lwX := kw 1420 (by decide +kernel) (by decide +kernel)
theorem kw1421 : Cond.methodLink RX9 213 yX9_canEnter ∈ lwX := kw 1421 (by decide +kernel) (by decide +kernel)
theorem kw1423 : Cond.instanceMethod yX9_canEnter ∈ lwX := kw 1423 (by decide +kernel) (by decide +kernel)
theorem kw50 : Cond.selects RX9 yX9_canEnter yX9_canEnter ∈ lwX := kw 50 (by decide +kernel) (by decide +kernel)
theorem kw1424 : Cond.code yX9_canEnter cX9_canEnter 2 (some .boolean) ∈ lwX := kw 1424 (by decide +kernel) (by decide +kernel)
theorem kw1433 : Cond.methodLink RX9 131 yX9_enters ∈ lwX := kw 1433 (by decide +kernel) (by decide +kernel)
theorem kw1435 : Cond.instanceMethod yX9_enters ∈ lwX := kw 1435 (by decide +kernel) (by decide +kernel)
theorem kw53 : Cond.selects RX9 yX9_enters yX9_enters ∈ lwX := kw 53 (by decide +kernel) (by decide +kernel)
theorem kw1436 : Cond.code yX9_enters cX9_enters 5 (some .int) ∈ lwX := kw 1436 (by decide +kernel) (by decide +kernel)
theorem kw1457 : Cond.methodLink RX9 81 yX9_gutter ∈ lwX := kw 1457 (by decide +kernel) (by decide +kernel)
theorem kw1459 : Cond.instanceMethod yX9_gutter ∈ lwX := kw 1459 (by decide +kernel) (by decide +kernel)
theorem kw59 : Cond.selects RX9 yX9_gutter yX9_gutter ∈ lwX := kw 59 (by decide +kernel) (by decide +kernel)
theorem kw1460 : Cond.code yX9_gutter cX9_gutter 3 (some .int) ∈ lwX := kw 1460 (by decide +kernel) (by decide +kernel)
theorem kw1473 : Cond.methodLink RX9 76 Lib.Math.max.name ∈ lwX := kw 1473 (by decide +kernel) (by decide +kernel)
theorem kw1465 : Cond.methodLink RX9 68 yX9_owner ∈ lwX := kw 1465 (by decide +kernel) (by decide +kernel)
theorem kw1467 : Cond.instanceMethod yX9_owner ∈ lwX := kw 1467 (by decide +kernel) (by decide +kernel)
theorem kw61 : Cond.selects RX9 yX9_owner yX9_owner ∈ lwX := kw 61 (by decide +kernel) (by decide +kernel)
theorem kw1468 : Cond.code yX9_owner cX9_owner 2 (some .int) ∈ lwX := kw 1468 (by decide +kernel) (by decide +kernel)
theorem kw1469 : Cond.methodLink RX9 90 yX9_truceLeft ∈ lwX := kw 1469 (by decide +kernel) (by decide +kernel)
theorem kw1471 : Cond.instanceMethod yX9_truceLeft ∈ lwX := kw 1471 (by decide +kernel) (by decide +kernel)
theorem kw62 : Cond.selects RX9 yX9_truceLeft yX9_truceLeft ∈ lwX := kw 62 (by decide +kernel) (by decide +kernel)
theorem kw1472 : Cond.code yX9_truceLeft cX9_truceLeft 3 (some .int) ∈ lwX := kw 1472 (by decide +kernel) (by decide +kernel)
theorem kw1453 : Cond.methodLink RX9 93 yX9_across ∈ lwX := kw 1453 (by decide +kernel) (by decide +kernel)
theorem kw1455 : Cond.instanceMethod yX9_across ∈ lwX := kw 1455 (by decide +kernel) (by decide +kernel)
theorem kw58 : Cond.selects RX9 yX9_across yX9_across ∈ lwX := kw 58 (by decide +kernel) (by decide +kernel)
theorem kw1456 : Cond.code yX9_across cX9_across 3 (some .int) ∈ lwX := kw 1456 (by decide +kernel) (by decide +kernel)
theorem kw1461 : Cond.methodLink RX9 96 yX9_whyNotIn ∈ lwX := kw 1461 (by decide +kernel) (by decide +kernel)
theorem kw1463 : Cond.instanceMethod yX9_whyNotIn ∈ lwX := kw 1463 (by decide +kernel) (by decide +kernel)
theorem kw60 : Cond.selects RX9 yX9_whyNotIn yX9_whyNotIn ∈ lwX := kw 60 (by decide +kernel) (by decide +kernel)
theorem kw1464 : Cond.code yX9_whyNotIn cX9_whyNotIn 5 (some .int) ∈ lwX := kw 1464 (by decide +kernel) (by decide +kernel)
theorem kw1445 : Cond.methodLink RX9 216 yX9_catAt ∈ lwX := kw 1445 (by decide +kernel) (by decide +kernel)
theorem kw1447 : Cond.instanceMethod yX9_catAt ∈ lwX := kw 1447 (by decide +kernel) (by decide +kernel)
theorem kw56 : Cond.selects RX9 yX9_catAt yX9_catAt ∈ lwX := kw 56 (by decide +kernel) (by decide +kernel)
theorem kw1448 : Cond.code yX9_catAt cX9_catAt 2 (some .boolean) ∈ lwX := kw 1448 (by decide +kernel) (by decide +kernel)
theorem kw1449 : Cond.methodLink RX9 219 yX9_whyStays ∈ lwX := kw 1449 (by decide +kernel) (by decide +kernel)
theorem kw1451 : Cond.instanceMethod yX9_whyStays ∈ lwX := kw 1451 (by decide +kernel) (by decide +kernel)
theorem kw57 : Cond.selects RX9 yX9_whyStays yX9_whyStays ∈ lwX := kw 57 (by decide +kernel) (by decide +kernel)
theorem kw1452 : Cond.code yX9_whyStays cX9_whyStays 4 (some .int) ∈ lwX := kw 1452 (by decide +kernel) (by decide +kernel)
theorem kw1474 : Cond.methodLink RX9 222 yX9_goes ∈ lwX := kw 1474 (by decide +kernel) (by decide +kernel)
theorem kw1476 : Cond.instanceMethod yX9_goes ∈ lwX := kw 1476 (by decide +kernel) (by decide +kernel)
theorem kw63 : Cond.selects RX9 yX9_goes yX9_goes ∈ lwX := kw 63 (by decide +kernel) (by decide +kernel)
theorem kw1477 : Cond.code yX9_goes cX9_goes 3 (some .int) ∈ lwX := kw 1477 (by decide +kernel) (by decide +kernel)
theorem kw1486 : Cond.methodLink RX9 99 yX9_owns ∈ lwX := kw 1486 (by decide +kernel) (by decide +kernel)
theorem kw1488 : Cond.instanceMethod yX9_owns ∈ lwX := kw 1488 (by decide +kernel) (by decide +kernel)
theorem kw66 : Cond.selects RX9 yX9_owns yX9_owns ∈ lwX := kw 66 (by decide +kernel) (by decide +kernel)
theorem kw1489 : Cond.code yX9_owns cX9_owns 4 (some .int) ∈ lwX := kw 1489 (by decide +kernel) (by decide +kernel)
theorem kw1482 : Cond.methodLink RX9 225 yX9_whyLeaves ∈ lwX := kw 1482 (by decide +kernel) (by decide +kernel)
theorem kw1484 : Cond.instanceMethod yX9_whyLeaves ∈ lwX := kw 1484 (by decide +kernel) (by decide +kernel)
theorem kw65 : Cond.selects RX9 yX9_whyLeaves yX9_whyLeaves ∈ lwX := kw 65 (by decide +kernel) (by decide +kernel)
theorem kw1485 : Cond.code yX9_whyLeaves cX9_whyLeaves 2 (some .int) ∈ lwX := kw 1485 (by decide +kernel) (by decide +kernel)
theorem kw1490 : Cond.methodLink RX9 228 yX9_claims ∈ lwX := kw 1490 (by decide +kernel) (by decide +kernel)
theorem kw1492 : Cond.instanceMethod yX9_claims ∈ lwX := kw 1492 (by decide +kernel) (by decide +kernel)
theorem kw67 : Cond.selects RX9 yX9_claims yX9_claims ∈ lwX := kw 67 (by decide +kernel) (by decide +kernel)
theorem kw1493 : Cond.code yX9_claims cX9_claims 2 (some .int) ∈ lwX := kw 1493 (by decide +kernel) (by decide +kernel)
theorem kw1498 : Cond.methodLink RX9 231 yX9_leaves ∈ lwX := kw 1498 (by decide +kernel) (by decide +kernel)
theorem kw1500 : Cond.instanceMethod yX9_leaves ∈ lwX := kw 1500 (by decide +kernel) (by decide +kernel)
theorem kw69 : Cond.selects RX9 yX9_leaves yX9_leaves ∈ lwX := kw 69 (by decide +kernel) (by decide +kernel)
theorem kw1501 : Cond.code yX9_leaves cX9_leaves 3 (some .int) ∈ lwX := kw 1501 (by decide +kernel) (by decide +kernel)
theorem kw1514 : Cond.methodLink RX9 84 yX9_joins ∈ lwX := kw 1514 (by decide +kernel) (by decide +kernel)
theorem kw1516 : Cond.instanceMethod yX9_joins ∈ lwX := kw 1516 (by decide +kernel) (by decide +kernel)
theorem kw73 : Cond.selects RX9 yX9_joins yX9_joins ∈ lwX := kw 73 (by decide +kernel) (by decide +kernel)
theorem kw1517 : Cond.code yX9_joins cX9_joins 4 (some .boolean) ∈ lwX := kw 1517 (by decide +kernel) (by decide +kernel)
theorem kw1522 : Cond.methodLink RX9 72 yX9_isHome ∈ lwX := kw 1522 (by decide +kernel) (by decide +kernel)
theorem kw1524 : Cond.instanceMethod yX9_isHome ∈ lwX := kw 1524 (by decide +kernel) (by decide +kernel)
theorem kw75 : Cond.selects RX9 yX9_isHome yX9_isHome ∈ lwX := kw 75 (by decide +kernel) (by decide +kernel)
theorem kw1525 : Cond.code yX9_isHome cX9_isHome 2 (some .boolean) ∈ lwX := kw 1525 (by decide +kernel) (by decide +kernel)
theorem kw1510 : Cond.methodLink RX9 102 yX9_widestBetween ∈ lwX := kw 1510 (by decide +kernel) (by decide +kernel)
theorem kw1512 : Cond.instanceMethod yX9_widestBetween ∈ lwX := kw 1512 (by decide +kernel) (by decide +kernel)
theorem kw72 : Cond.selects RX9 yX9_widestBetween yX9_widestBetween ∈ lwX := kw 72 (by decide +kernel) (by decide +kernel)
theorem kw1513 : Cond.code yX9_widestBetween cX9_widestBetween 5 (some .int) ∈ lwX := kw 1513 (by decide +kernel) (by decide +kernel)
theorem kw1518 : Cond.methodLink RX9 105 yX9_powerOf ∈ lwX := kw 1518 (by decide +kernel) (by decide +kernel)
theorem kw1520 : Cond.instanceMethod yX9_powerOf ∈ lwX := kw 1520 (by decide +kernel) (by decide +kernel)
theorem kw74 : Cond.selects RX9 yX9_powerOf yX9_powerOf ∈ lwX := kw 74 (by decide +kernel) (by decide +kernel)
theorem kw1521 : Cond.code yX9_powerOf cX9_powerOf 2 (some .int) ∈ lwX := kw 1521 (by decide +kernel) (by decide +kernel)
theorem kw1506 : Cond.methodLink RX9 234 yX9_whySpares ∈ lwX := kw 1506 (by decide +kernel) (by decide +kernel)
theorem kw1508 : Cond.instanceMethod yX9_whySpares ∈ lwX := kw 1508 (by decide +kernel) (by decide +kernel)
theorem kw71 : Cond.selects RX9 yX9_whySpares yX9_whySpares ∈ lwX := kw 71 (by decide +kernel) (by decide +kernel)
theorem kw1509 : Cond.code yX9_whySpares cX9_whySpares 3 (some .int) ∈ lwX := kw 1509 (by decide +kernel) (by decide +kernel)
theorem kw1526 : Cond.methodLink RX9 237 yX9_chases ∈ lwX := kw 1526 (by decide +kernel) (by decide +kernel)
theorem kw1528 : Cond.instanceMethod yX9_chases ∈ lwX := kw 1528 (by decide +kernel) (by decide +kernel)
theorem kw76 : Cond.selects RX9 yX9_chases yX9_chases ∈ lwX := kw 76 (by decide +kernel) (by decide +kernel)
theorem kw1529 : Cond.code yX9_chases cX9_chases 5 (some .boolean) ∈ lwX := kw 1529 (by decide +kernel) (by decide +kernel)
theorem kw1534 : Cond.methodLink RX9 241 yX9_canBuy ∈ lwX := kw 1534 (by decide +kernel) (by decide +kernel)
theorem kw1536 : Cond.instanceMethod yX9_canBuy ∈ lwX := kw 1536 (by decide +kernel) (by decide +kernel)
theorem kw78 : Cond.selects RX9 yX9_canBuy yX9_canBuy ∈ lwX := kw 78 (by decide +kernel) (by decide +kernel)
theorem kw1537 : Cond.code yX9_canBuy cX9_canBuy 4 (some .boolean) ∈ lwX := kw 1537 (by decide +kernel) (by decide +kernel)
theorem kw1538 : Cond.methodLink RX9 244 yX9_buys ∈ lwX := kw 1538 (by decide +kernel) (by decide +kernel)
theorem kw1540 : Cond.instanceMethod yX9_buys ∈ lwX := kw 1540 (by decide +kernel) (by decide +kernel)
theorem kw79 : Cond.selects RX9 yX9_buys yX9_buys ∈ lwX := kw 79 (by decide +kernel) (by decide +kernel)
theorem kw1541 : Cond.code yX9_buys cX9_buys 5 (some .int) ∈ lwX := kw 1541 (by decide +kernel) (by decide +kernel)
theorem kw1550 : Cond.methodLink RX9 121 yX9_waits ∈ lwX := kw 1550 (by decide +kernel) (by decide +kernel)
theorem kw1552 : Cond.instanceMethod yX9_waits ∈ lwX := kw 1552 (by decide +kernel) (by decide +kernel)
theorem kw82 : Cond.selects RX9 yX9_waits yX9_waits ∈ lwX := kw 82 (by decide +kernel) (by decide +kernel)
theorem kw1553 : Cond.code yX9_waits cX9_waits 1 (some .boolean) ∈ lwX := kw 1553 (by decide +kernel) (by decide +kernel)
theorem kw1546 : Cond.methodLink RX9 248 yX9_canNominate ∈ lwX := kw 1546 (by decide +kernel) (by decide +kernel)
theorem kw1548 : Cond.instanceMethod yX9_canNominate ∈ lwX := kw 1548 (by decide +kernel) (by decide +kernel)
theorem kw81 : Cond.selects RX9 yX9_canNominate yX9_canNominate ∈ lwX := kw 81 (by decide +kernel) (by decide +kernel)
theorem kw1549 : Cond.code yX9_canNominate cX9_canNominate 1 (some .boolean) ∈ lwX := kw 1549 (by decide +kernel) (by decide +kernel)
theorem kw1554 : Cond.methodLink RX9 251 yX9_nominates ∈ lwX := kw 1554 (by decide +kernel) (by decide +kernel)
theorem kw1556 : Cond.instanceMethod yX9_nominates ∈ lwX := kw 1556 (by decide +kernel) (by decide +kernel)
theorem kw83 : Cond.selects RX9 yX9_nominates yX9_nominates ∈ lwX := kw 83 (by decide +kernel) (by decide +kernel)
theorem kw1557 : Cond.code yX9_nominates cX9_nominates 3 (some .int) ∈ lwX := kw 1557 (by decide +kernel) (by decide +kernel)
theorem kw1574 : Cond.methodLink RX9 127 yX9_warmestPlace ∈ lwX := kw 1574 (by decide +kernel) (by decide +kernel)
theorem kw1576 : Cond.instanceMethod yX9_warmestPlace ∈ lwX := kw 1576 (by decide +kernel) (by decide +kernel)
theorem kw88 : Cond.selects RX9 yX9_warmestPlace yX9_warmestPlace ∈ lwX := kw 88 (by decide +kernel) (by decide +kernel)
theorem kw1577 : Cond.code yX9_warmestPlace cX9_warmestPlace 3 (some .int) ∈ lwX := kw 1577 (by decide +kernel) (by decide +kernel)
theorem kw1578 : Cond.methodLink RX9 115 yX9_bits ∈ lwX := kw 1578 (by decide +kernel) (by decide +kernel)
theorem kw1579 : Cond.static yX9_bits ∈ lwX := kw 1579 (by decide +kernel) (by decide +kernel)
theorem kw1580 : Cond.code yX9_bits cX9_bits 3 (some .int) ∈ lwX := kw 1580 (by decide +kernel) (by decide +kernel)
theorem kw1570 : Cond.methodLink RX9 124 yX9_decides ∈ lwX := kw 1570 (by decide +kernel) (by decide +kernel)
theorem kw1572 : Cond.instanceMethod yX9_decides ∈ lwX := kw 1572 (by decide +kernel) (by decide +kernel)
theorem kw87 : Cond.selects RX9 yX9_decides yX9_decides ∈ lwX := kw 87 (by decide +kernel) (by decide +kernel)
theorem kw1573 : Cond.code yX9_decides cX9_decides 3 (some .boolean) ∈ lwX := kw 1573 (by decide +kernel) (by decide +kernel)
theorem kw1562 : Cond.methodLink RX9 254 yX9_canVote ∈ lwX := kw 1562 (by decide +kernel) (by decide +kernel)
theorem kw1564 : Cond.instanceMethod yX9_canVote ∈ lwX := kw 1564 (by decide +kernel) (by decide +kernel)
theorem kw85 : Cond.selects RX9 yX9_canVote yX9_canVote ∈ lwX := kw 85 (by decide +kernel) (by decide +kernel)
theorem kw1565 : Cond.code yX9_canVote cX9_canVote 2 (some .boolean) ∈ lwX := kw 1565 (by decide +kernel) (by decide +kernel)
theorem kw1566 : Cond.methodLink RX9 257 yX9_votes ∈ lwX := kw 1566 (by decide +kernel) (by decide +kernel)
theorem kw1568 : Cond.instanceMethod yX9_votes ∈ lwX := kw 1568 (by decide +kernel) (by decide +kernel)
theorem kw86 : Cond.selects RX9 yX9_votes yX9_votes ∈ lwX := kw 86 (by decide +kernel) (by decide +kernel)
theorem kw1569 : Cond.code yX9_votes cX9_votes 3 (some .boolean) ∈ lwX := kw 1569 (by decide +kernel) (by decide +kernel)
theorem kw1593 : Cond.methodLink RX9 135 Lib.Math.min.name ∈ lwX := kw 1593 (by decide +kernel) (by decide +kernel)
theorem m_X9_sortOf : xMemS yX9_sortOf cX9_sortOf 1 (some .int) 1 := ⟨kw1326, kw125, kw1327, by decide +kernel, by decide +kernel, by decide +kernel⟩
theorem m_X9_fail : xMem yX9_fail RX9 cX9_fail 2 (some .boolean) 1 := ⟨kw1339, kw33, kw125, kw1340, by decide +kernel, by decide +kernel, by decide +kernel, by decide +kernel⟩
theorem m_X9_says : xMem yX9_says RX9 cX9_says 3 (some .boolean) 1 := ⟨kw1335, kw32, kw125, kw1336, by decide +kernel, by decide +kernel, by decide +kernel, by decide +kernel⟩
theorem m_X9_laterWord : xMem yX9_laterWord RX9 cX9_laterWord 1 (some .int) 0 := ⟨kw1361, kw37, kw125, kw1362, by decide +kernel, by decide +kernel, by decide +kernel, by decide +kernel⟩
theorem m_X9_is : xMem yX9_is RX9 cX9_is 2 (some .boolean) 1 := ⟨kw1343, kw34, kw125, kw1344, by decide +kernel, by decide +kernel, by decide +kernel, by decide +kernel⟩
theorem m_X9_in : xMemS yX9_in cX9_in 3 (some .boolean) 3 := ⟨kw1379, kw125, kw1380, by decide +kernel, by decide +kernel, by decide +kernel⟩
theorem m_X9_next : xMem yX9_next RX9 cX9_next 2 none 0 := ⟨kw1323, kw30, kw125, kw1324, by decide +kernel, by decide +kernel, by decide +kernel, by decide +kernel⟩
theorem m_X9_number : xMem yX9_number RX9 cX9_number 4 (some .boolean) 3 := ⟨kw1376, kw39, kw125, kw1377, by decide +kernel, by decide +kernel, by decide +kernel, by decide +kernel⟩
theorem m_X9_stops : xMem yX9_stops RX9 cX9_stops 2 (some .boolean) 1 := ⟨kw1391, kw42, kw125, kw1392, by decide +kernel, by decide +kernel, by decide +kernel, by decide +kernel⟩
theorem m_X9_builds : xMem yX9_builds RX9 cX9_builds 2 (some .int) 1 := ⟨kw1395, kw43, kw125, kw1396, by decide +kernel, by decide +kernel, by decide +kernel, by decide +kernel⟩
theorem m_X9_chimneyAt : xMem yX9_chimneyAt RX9 cX9_chimneyAt 2 (some .boolean) 1 := ⟨kw1403, kw45, kw125, kw1404, by decide +kernel, by decide +kernel, by decide +kernel, by decide +kernel⟩
theorem m_X9_another : xMem yX9_another RX9 cX9_another 2 (some .boolean) 1 := ⟨kw1407, kw46, kw125, kw1408, by decide +kernel, by decide +kernel, by decide +kernel, by decide +kernel⟩
theorem m_X9_lays : xMem yX9_lays RX9 cX9_lays 5 (some .int) 3 := ⟨kw1411, kw47, kw125, kw1412, by decide +kernel, by decide +kernel, by decide +kernel, by decide +kernel⟩
theorem m_X9_of : xMem yX9_of RX9 cX9_of 3 (some .int) 2 := ⟨kw1431, kw52, kw125, kw1432, by decide +kernel, by decide +kernel, by decide +kernel, by decide +kernel⟩
theorem m_X9_sitter : xMem yX9_sitter RX9 cX9_sitter 3 (some .int) 1 := ⟨kw1427, kw51, kw125, kw1428, by decide +kernel, by decide +kernel, by decide +kernel, by decide +kernel⟩
theorem m_X9_to : xMem yX9_to RX9 cX9_to 4 none 3 := ⟨kw1439, kw54, kw125, kw1440, by decide +kernel, by decide +kernel, by decide +kernel, by decide +kernel⟩
theorem m_X9_sizesAt : xMem yX9_sizesAt RX9 cX9_sizesAt 2 (some .boolean) 1 := ⟨kw1419, kw49, kw125, kw1420, by decide +kernel, by decide +kernel, by decide +kernel, by decide +kernel⟩
theorem m_X9_canEnter : xMem yX9_canEnter RX9 cX9_canEnter 2 (some .boolean) 1 := ⟨kw1423, kw50, kw125, kw1424, by decide +kernel, by decide +kernel, by decide +kernel, by decide +kernel⟩
theorem m_X9_enters : xMem yX9_enters RX9 cX9_enters 5 (some .int) 3 := ⟨kw1435, kw53, kw125, kw1436, by decide +kernel, by decide +kernel, by decide +kernel, by decide +kernel⟩
theorem m_X9_gutter : xMem yX9_gutter RX9 cX9_gutter 3 (some .int) 2 := ⟨kw1459, kw59, kw125, kw1460, by decide +kernel, by decide +kernel, by decide +kernel, by decide +kernel⟩
theorem m_X9_owner : xMem yX9_owner RX9 cX9_owner 2 (some .int) 1 := ⟨kw1467, kw61, kw125, kw1468, by decide +kernel, by decide +kernel, by decide +kernel, by decide +kernel⟩
theorem m_X9_truceLeft : xMem yX9_truceLeft RX9 cX9_truceLeft 3 (some .int) 2 := ⟨kw1471, kw62, kw125, kw1472, by decide +kernel, by decide +kernel, by decide +kernel, by decide +kernel⟩
theorem m_X9_across : xMem yX9_across RX9 cX9_across 3 (some .int) 2 := ⟨kw1455, kw58, kw125, kw1456, by decide +kernel, by decide +kernel, by decide +kernel, by decide +kernel⟩
theorem m_X9_whyNotIn : xMem yX9_whyNotIn RX9 cX9_whyNotIn 5 (some .int) 2 := ⟨kw1463, kw60, kw125, kw1464, by decide +kernel, by decide +kernel, by decide +kernel, by decide +kernel⟩
theorem m_X9_catAt : xMem yX9_catAt RX9 cX9_catAt 2 (some .boolean) 1 := ⟨kw1447, kw56, kw125, kw1448, by decide +kernel, by decide +kernel, by decide +kernel, by decide +kernel⟩
theorem m_X9_whyStays : xMem yX9_whyStays RX9 cX9_whyStays 4 (some .int) 2 := ⟨kw1451, kw57, kw125, kw1452, by decide +kernel, by decide +kernel, by decide +kernel, by decide +kernel⟩
theorem m_X9_goes : xMem yX9_goes RX9 cX9_goes 3 (some .int) 2 := ⟨kw1476, kw63, kw125, kw1477, by decide +kernel, by decide +kernel, by decide +kernel, by decide +kernel⟩
theorem m_X9_owns : xMem yX9_owns RX9 cX9_owns 4 (some .int) 1 := ⟨kw1488, kw66, kw125, kw1489, by decide +kernel, by decide +kernel, by decide +kernel, by decide +kernel⟩
theorem m_X9_whyLeaves : xMem yX9_whyLeaves RX9 cX9_whyLeaves 2 (some .int) 1 := ⟨kw1484, kw65, kw125, kw1485, by decide +kernel, by decide +kernel, by decide +kernel, by decide +kernel⟩
theorem m_X9_claims : xMem yX9_claims RX9 cX9_claims 2 (some .int) 1 := ⟨kw1492, kw67, kw125, kw1493, by decide +kernel, by decide +kernel, by decide +kernel, by decide +kernel⟩
theorem m_X9_leaves : xMem yX9_leaves RX9 cX9_leaves 3 (some .int) 1 := ⟨kw1500, kw69, kw125, kw1501, by decide +kernel, by decide +kernel, by decide +kernel, by decide +kernel⟩
theorem m_X9_joins : xMem yX9_joins RX9 cX9_joins 4 (some .boolean) 3 := ⟨kw1516, kw73, kw125, kw1517, by decide +kernel, by decide +kernel, by decide +kernel, by decide +kernel⟩
theorem m_X9_isHome : xMem yX9_isHome RX9 cX9_isHome 2 (some .boolean) 1 := ⟨kw1524, kw75, kw125, kw1525, by decide +kernel, by decide +kernel, by decide +kernel, by decide +kernel⟩
theorem m_X9_widestBetween : xMem yX9_widestBetween RX9 cX9_widestBetween 5 (some .int) 2 := ⟨kw1512, kw72, kw125, kw1513, by decide +kernel, by decide +kernel, by decide +kernel, by decide +kernel⟩
theorem m_X9_powerOf : xMem yX9_powerOf RX9 cX9_powerOf 2 (some .int) 1 := ⟨kw1520, kw74, kw125, kw1521, by decide +kernel, by decide +kernel, by decide +kernel, by decide +kernel⟩
theorem m_X9_whySpares : xMem yX9_whySpares RX9 cX9_whySpares 3 (some .int) 2 := ⟨kw1508, kw71, kw125, kw1509, by decide +kernel, by decide +kernel, by decide +kernel, by decide +kernel⟩
theorem m_X9_chases : xMem yX9_chases RX9 cX9_chases 5 (some .boolean) 2 := ⟨kw1528, kw76, kw125, kw1529, by decide +kernel, by decide +kernel, by decide +kernel, by decide +kernel⟩
theorem m_X9_canBuy : xMem yX9_canBuy RX9 cX9_canBuy 4 (some .boolean) 3 := ⟨kw1536, kw78, kw125, kw1537, by decide +kernel, by decide +kernel, by decide +kernel, by decide +kernel⟩
theorem m_X9_buys : xMem yX9_buys RX9 cX9_buys 5 (some .int) 4 := ⟨kw1540, kw79, kw125, kw1541, by decide +kernel, by decide +kernel, by decide +kernel, by decide +kernel⟩
theorem m_X9_waits : xMem yX9_waits RX9 cX9_waits 1 (some .boolean) 0 := ⟨kw1552, kw82, kw125, kw1553, by decide +kernel, by decide +kernel, by decide +kernel, by decide +kernel⟩
theorem m_X9_canNominate : xMem yX9_canNominate RX9 cX9_canNominate 1 (some .boolean) 0 := ⟨kw1548, kw81, kw125, kw1549, by decide +kernel, by decide +kernel, by decide +kernel, by decide +kernel⟩
theorem m_X9_nominates : xMem yX9_nominates RX9 cX9_nominates 3 (some .int) 2 := ⟨kw1556, kw83, kw125, kw1557, by decide +kernel, by decide +kernel, by decide +kernel, by decide +kernel⟩
theorem m_X9_warmestPlace : xMem yX9_warmestPlace RX9 cX9_warmestPlace 3 (some .int) 0 := ⟨kw1576, kw88, kw125, kw1577, by decide +kernel, by decide +kernel, by decide +kernel, by decide +kernel⟩
theorem m_X9_bits : xMemS yX9_bits cX9_bits 3 (some .int) 1 := ⟨kw1579, kw125, kw1580, by decide +kernel, by decide +kernel, by decide +kernel⟩
theorem m_X9_decides : xMem yX9_decides RX9 cX9_decides 3 (some .boolean) 0 := ⟨kw1572, kw87, kw125, kw1573, by decide +kernel, by decide +kernel, by decide +kernel, by decide +kernel⟩
theorem m_X9_canVote : xMem yX9_canVote RX9 cX9_canVote 2 (some .boolean) 1 := ⟨kw1564, kw85, kw125, kw1565, by decide +kernel, by decide +kernel, by decide +kernel, by decide +kernel⟩
theorem m_X9_votes : xMem yX9_votes RX9 cX9_votes 3 (some .boolean) 2 := ⟨kw1568, kw86, kw125, kw1569, by decide +kernel, by decide +kernel, by decide +kernel, by decide +kernel⟩
set_option maxHeartbeats 4000000 in
set_option maxRecDepth 100000 in
theorem w_X9_tell_L2 {p : Program} {l : Launch} {e : Env} {s : State} {m : MethodId} {args : Array Value} {below : List Frame} {meth : Method} {c : Code} {D : va_G} {cy : Nat → ClassId} {s00 : State} {ad : Nat → Nat} {A : Nat → Prop} (hG : XG s00) {aK0 aV0 : Nat} {byt0 : List Int32} (g0 : XStr s00 aK0 aV0 byt0) (hlen0 : byt0.length < 2 ^ 31) {S9 : XS}  {K : Int32 → XS → Option (XS)} (E : XE p s m args meth c cX9_tell 3 RX9 none D cy s00) (hk : ∀ (m2 : Int32) (S1 : XS) (H : Heap) (locs : List Loc) (ls : Array Slot), K m2 S1 = some S9 → XH D cy s00 shMod ad S1 A s H locs → lv_has ls 3 [(0, .ref (ad 0)), (1, .ref aK0), (2, .int m2)] → W p l e (xrm 4) s m args below meth c H locs 0 0 (MQ below (xqv D cy shMod ad S9 A) args s 0 0 A) (F0 m 40 ls [])) :
    ∀ (n : Nat) (m2 : Int32) (S : XS) (H : Heap) (locs : List Loc) (ls : Array Slot), f_X9_tell_L2 byt0 K n m2 S = some S9 → XH D cy s00 shMod ad S A s H locs → lv_has ls 3 [(0, .ref (ad 0)), (1, .ref aK0), (2, .int m2)] → W p l e (xrm 4) s m args below meth c H locs 0 0 (MQ below (xqv D cy shMod ad S9 A) args s 0 0 A) (F0 m 2 ls []) := by
  intro n
  induction n with
  | zero => intro m2 S H locs ls hf; cases hf
  | succ n ih =>
    intro m2 S H locs ls hf h hl
    rw [f_X9_tell_L2] at hf
    refine lv_iload_n E.1 E.2.1 dX9_tell_2 rfl (lv_at hl 2 rfl) ?_
    refine lv_aload_n E.1 E.2.1 dX9_tell_3 rfl (lv_at hl 1 rfl) ?_
    refine x_slen hG g0 E h hl kw1314 (Nat.le_of_ble_eq_true rfl) ⟨by decide, by decide⟩ ⟨Nat.zero_le _, Nat.zero_le _⟩ dX9_tell_4 (fun H locs h => ?_)
    refine x_br hf (lv_icmp_ge (tgt := 40) E.1 E.2.1 dX9_tell_7 (by decide)) (fun hf => ?_) (fun hf => ?_)
    · exact hk _ _ _ _ _ hf h (lv_sub hl [0, 1, 2] rfl)
    · refine lv_aload_n E.1 E.2.1 dX9_tell_10 rfl (lv_at hl 0 rfl) ?_
      refine x_getr E h 0 8 7 rfl rfl rfl (by decide) xinX9 kw1618 dX9_tell_11 ?_
      refine lv_aload_n E.1 E.2.1 dX9_tell_14 rfl (lv_at hl 0 rfl) ?_
      refine x_get E h 0 11 rfl rfl rfl (by decide) xinX9 kw1621 dX9_tell_15 ?_
      refine lv_aload_n E.1 E.2.1 dX9_tell_18 rfl (lv_at hl 1 rfl) ?_
      refine lv_iload_n E.1 E.2.1 dX9_tell_19 rfl (lv_at hl 2 rfl) ?_
      refine x_sch hG g0 hlen0 E h hl hf kw1315 (Nat.le_of_ble_eq_true rfl) ⟨by decide, by decide⟩ ⟨Nat.zero_le _, Nat.zero_le _⟩ dX9_tell_20 (fun v1 H locs hf h => ?_)
      refine x_iast E h 7 hf rfl dX9_tell_23 (fun S2 H locs hf h => ?_)
      refine lv_aload_n E.1 E.2.1 dX9_tell_24 rfl (lv_at hl 0 rfl) ?_
      refine lv_dup E.1 E.2.1 dX9_tell_25 rfl ?_
      refine x_get E h 0 11 rfl rfl rfl (by decide) xinX9 kw1621 dX9_tell_26 ?_
      refine lv_iconst (v := 1) E.1 E.2.1 dX9_tell_29 (by decide) ?_
      refine lv_iadd E.1 E.2.1 dX9_tell_30 ?_
      refine x_put (ty := .int) E h 0 11 hf rfl rfl rfl (by decide) xinX9 tyX9_ok nmX9 kw1621 rfl (by decide +kernel) rfl rfl dX9_tell_31 (fun S4 H locs hf h => ?_)
      refine x_nv hf (fun v5 e9 hf => ?_)
      refine lv_iinc (v := v5) (lv' := [(2, .int v5), (0, .ref (ad 0)), (1, .ref aK0)]) E.1 E.2.1 dX9_tell_34 hl (k := 2) rfl (by rw [e9]; rfl) (by decide) rfl (fun ls hl => ?_)
      refine lv_goto (tgt := 2) E.1 E.2.1 dX9_tell_37 (by decide) ?_
      exact ih _ _ _ _ _ hf h (lv_sub hl [1, 2, 0] rfl)
set_option maxHeartbeats 4000000 in
set_option maxRecDepth 100000 in
theorem c_X9_tell (l : Launch) (D : va_G) (cy : Nat → ClassId) (s00 : State) (ad : Nat → Nat) (hG : XG s00) {aK0 aV0 : Nat} {byt0 : List Int32} (g0 : XStr s00 aK0 aV0 byt0) (hlen0 : byt0.length < 2 ^ 31) (S : XS) (S9 : XS) (hf : f_X9_tell S byt0 = some S9) : XV l yX9_tell cX9_tell 3 none 4 D cy s00 shMod ad S [.ref (ad 0), .ref aK0] S9 := by
  refine XV.of (by decide) [(0, .ref (ad 0)), (1, .ref aK0)] rfl (Nat.le_of_ble_eq_true rfl) (fun p e s m args below meth c A ls E h hl => ?_)
  unfold f_X9_tell at hf
  refine lv_iconst (v := 0) E.1 E.2.1 dX9_tell_0 (by decide) ?_
  refine lv_istore_n (lv' := [(2, .int 0), (0, .ref (ad 0)), (1, .ref aK0)]) E.1 E.2.1 dX9_tell_1 rfl hl (by decide) rfl (fun ls hl => ?_)
  refine w_X9_tell_L2 hG g0 hlen0 E ?_ _ _ _ _ _ _ hf h (lv_sub hl [1, 2, 0] rfl)
  intro v6 S7 H locs ls hf h hl
  exact x_vret E h hf dX9_tell_40
set_option maxHeartbeats 4000000 in
set_option maxRecDepth 100000 in
theorem c_X9_sortOf (l : Launch) (D : va_G) (cy : Nat → ClassId) (s00 : State) (ad : Nat → Nat) (S : XS) (p0 : Int32) (r9 : Int32) (hf : f_X9_sortOf p0 = some r9) : XI l yX9_sortOf cX9_sortOf 1 (some .int) 0 D cy s00 [] ad S [.int p0] r9 S := by
  refine XI.of (by decide) [(0, .int p0)] rfl (Nat.le_of_ble_eq_true rfl) (fun p e s m args below meth c A ls E h hl => ?_)
  unfold f_X9_sortOf at hf
  refine lv_iload_n E.1 E.2.1 dX9_sortOf_0 rfl (lv_at hl 0 rfl) ?_
  refine lv_bipush (v := 59) E.1 E.2.1 dX9_sortOf_1 (by decide) ?_
  refine x_brn hf (lv_icmp_ne (tgt := 10) E.1 E.2.1 dX9_sortOf_3 (by decide)) (fun hf => ?_) (fun hf => ?_)
  · refine lv_iload_n E.1 E.2.1 dX9_sortOf_10 rfl (lv_at hl 0 rfl) ?_
    refine lv_bipush (v := 97) E.1 E.2.1 dX9_sortOf_11 (by decide) ?_
    refine x_br hf (lv_icmp_lt (tgt := 26) E.1 E.2.1 dX9_sortOf_13 (by decide)) (fun hf => ?_) (fun hf => ?_)
    · refine lv_iload_n E.1 E.2.1 dX9_sortOf_26 rfl (lv_at hl 0 rfl) ?_
      refine lv_bipush (v := 48) E.1 E.2.1 dX9_sortOf_27 (by decide) ?_
      refine x_br hf (lv_icmp_lt (tgt := 42) E.1 E.2.1 dX9_sortOf_29 (by decide)) (fun hf => ?_) (fun hf => ?_)
      · refine lv_iload_n E.1 E.2.1 dX9_sortOf_42 rfl (lv_at hl 0 rfl) ?_
        refine lv_bipush (v := 40) E.1 E.2.1 dX9_sortOf_43 (by decide) ?_
        refine x_brn hf (lv_icmp_ne (tgt := 52) E.1 E.2.1 dX9_sortOf_45 (by decide)) (fun hf => ?_) (fun hf => ?_)
        · refine lv_iload_n E.1 E.2.1 dX9_sortOf_52 rfl (lv_at hl 0 rfl) ?_
          refine lv_bipush (v := 41) E.1 E.2.1 dX9_sortOf_53 (by decide) ?_
          refine x_brn hf (lv_icmp_ne (tgt := 62) E.1 E.2.1 dX9_sortOf_55 (by decide)) (fun hf => ?_) (fun hf => ?_)
          · refine lv_bipush (v := 6) E.1 E.2.1 dX9_sortOf_62 (by decide) ?_
            exact x_irp E h hf dX9_sortOf_64
          · refine lv_iconst (v := 5) E.1 E.2.1 dX9_sortOf_58 (by decide) ?_
            refine lv_goto (tgt := 64) E.1 E.2.1 dX9_sortOf_59 (by decide) ?_
            exact x_irp E h hf dX9_sortOf_64
        · refine lv_iconst (v := 4) E.1 E.2.1 dX9_sortOf_48 (by decide) ?_
          refine lv_goto (tgt := 64) E.1 E.2.1 dX9_sortOf_49 (by decide) ?_
          exact x_irp E h hf dX9_sortOf_64
      · refine lv_iload_n E.1 E.2.1 dX9_sortOf_32 rfl (lv_at hl 0 rfl) ?_
        refine lv_bipush (v := 57) E.1 E.2.1 dX9_sortOf_33 (by decide) ?_
        refine x_br hf (lv_icmp_gt (tgt := 42) E.1 E.2.1 dX9_sortOf_35 (by decide)) (fun hf => ?_) (fun hf => ?_)
        · refine lv_iload_n E.1 E.2.1 dX9_sortOf_42 rfl (lv_at hl 0 rfl) ?_
          refine lv_bipush (v := 40) E.1 E.2.1 dX9_sortOf_43 (by decide) ?_
          refine x_brn hf (lv_icmp_ne (tgt := 52) E.1 E.2.1 dX9_sortOf_45 (by decide)) (fun hf => ?_) (fun hf => ?_)
          · refine lv_iload_n E.1 E.2.1 dX9_sortOf_52 rfl (lv_at hl 0 rfl) ?_
            refine lv_bipush (v := 41) E.1 E.2.1 dX9_sortOf_53 (by decide) ?_
            refine x_brn hf (lv_icmp_ne (tgt := 62) E.1 E.2.1 dX9_sortOf_55 (by decide)) (fun hf => ?_) (fun hf => ?_)
            · refine lv_bipush (v := 6) E.1 E.2.1 dX9_sortOf_62 (by decide) ?_
              exact x_irp E h hf dX9_sortOf_64
            · refine lv_iconst (v := 5) E.1 E.2.1 dX9_sortOf_58 (by decide) ?_
              refine lv_goto (tgt := 64) E.1 E.2.1 dX9_sortOf_59 (by decide) ?_
              exact x_irp E h hf dX9_sortOf_64
          · refine lv_iconst (v := 4) E.1 E.2.1 dX9_sortOf_48 (by decide) ?_
            refine lv_goto (tgt := 64) E.1 E.2.1 dX9_sortOf_49 (by decide) ?_
            exact x_irp E h hf dX9_sortOf_64
        · refine lv_iconst (v := 3) E.1 E.2.1 dX9_sortOf_38 (by decide) ?_
          refine lv_goto (tgt := 64) E.1 E.2.1 dX9_sortOf_39 (by decide) ?_
          exact x_irp E h hf dX9_sortOf_64
    · refine lv_iload_n E.1 E.2.1 dX9_sortOf_16 rfl (lv_at hl 0 rfl) ?_
      refine lv_bipush (v := 122) E.1 E.2.1 dX9_sortOf_17 (by decide) ?_
      refine x_br hf (lv_icmp_gt (tgt := 26) E.1 E.2.1 dX9_sortOf_19 (by decide)) (fun hf => ?_) (fun hf => ?_)
      · refine lv_iload_n E.1 E.2.1 dX9_sortOf_26 rfl (lv_at hl 0 rfl) ?_
        refine lv_bipush (v := 48) E.1 E.2.1 dX9_sortOf_27 (by decide) ?_
        refine x_br hf (lv_icmp_lt (tgt := 42) E.1 E.2.1 dX9_sortOf_29 (by decide)) (fun hf => ?_) (fun hf => ?_)
        · refine lv_iload_n E.1 E.2.1 dX9_sortOf_42 rfl (lv_at hl 0 rfl) ?_
          refine lv_bipush (v := 40) E.1 E.2.1 dX9_sortOf_43 (by decide) ?_
          refine x_brn hf (lv_icmp_ne (tgt := 52) E.1 E.2.1 dX9_sortOf_45 (by decide)) (fun hf => ?_) (fun hf => ?_)
          · refine lv_iload_n E.1 E.2.1 dX9_sortOf_52 rfl (lv_at hl 0 rfl) ?_
            refine lv_bipush (v := 41) E.1 E.2.1 dX9_sortOf_53 (by decide) ?_
            refine x_brn hf (lv_icmp_ne (tgt := 62) E.1 E.2.1 dX9_sortOf_55 (by decide)) (fun hf => ?_) (fun hf => ?_)
            · refine lv_bipush (v := 6) E.1 E.2.1 dX9_sortOf_62 (by decide) ?_
              exact x_irp E h hf dX9_sortOf_64
            · refine lv_iconst (v := 5) E.1 E.2.1 dX9_sortOf_58 (by decide) ?_
              refine lv_goto (tgt := 64) E.1 E.2.1 dX9_sortOf_59 (by decide) ?_
              exact x_irp E h hf dX9_sortOf_64
          · refine lv_iconst (v := 4) E.1 E.2.1 dX9_sortOf_48 (by decide) ?_
            refine lv_goto (tgt := 64) E.1 E.2.1 dX9_sortOf_49 (by decide) ?_
            exact x_irp E h hf dX9_sortOf_64
        · refine lv_iload_n E.1 E.2.1 dX9_sortOf_32 rfl (lv_at hl 0 rfl) ?_
          refine lv_bipush (v := 57) E.1 E.2.1 dX9_sortOf_33 (by decide) ?_
          refine x_br hf (lv_icmp_gt (tgt := 42) E.1 E.2.1 dX9_sortOf_35 (by decide)) (fun hf => ?_) (fun hf => ?_)
          · refine lv_iload_n E.1 E.2.1 dX9_sortOf_42 rfl (lv_at hl 0 rfl) ?_
            refine lv_bipush (v := 40) E.1 E.2.1 dX9_sortOf_43 (by decide) ?_
            refine x_brn hf (lv_icmp_ne (tgt := 52) E.1 E.2.1 dX9_sortOf_45 (by decide)) (fun hf => ?_) (fun hf => ?_)
            · refine lv_iload_n E.1 E.2.1 dX9_sortOf_52 rfl (lv_at hl 0 rfl) ?_
              refine lv_bipush (v := 41) E.1 E.2.1 dX9_sortOf_53 (by decide) ?_
              refine x_brn hf (lv_icmp_ne (tgt := 62) E.1 E.2.1 dX9_sortOf_55 (by decide)) (fun hf => ?_) (fun hf => ?_)
              · refine lv_bipush (v := 6) E.1 E.2.1 dX9_sortOf_62 (by decide) ?_
                exact x_irp E h hf dX9_sortOf_64
              · refine lv_iconst (v := 5) E.1 E.2.1 dX9_sortOf_58 (by decide) ?_
                refine lv_goto (tgt := 64) E.1 E.2.1 dX9_sortOf_59 (by decide) ?_
                exact x_irp E h hf dX9_sortOf_64
            · refine lv_iconst (v := 4) E.1 E.2.1 dX9_sortOf_48 (by decide) ?_
              refine lv_goto (tgt := 64) E.1 E.2.1 dX9_sortOf_49 (by decide) ?_
              exact x_irp E h hf dX9_sortOf_64
          · refine lv_iconst (v := 3) E.1 E.2.1 dX9_sortOf_38 (by decide) ?_
            refine lv_goto (tgt := 64) E.1 E.2.1 dX9_sortOf_39 (by decide) ?_
            exact x_irp E h hf dX9_sortOf_64
      · refine lv_iconst (v := 2) E.1 E.2.1 dX9_sortOf_22 (by decide) ?_
        refine lv_goto (tgt := 64) E.1 E.2.1 dX9_sortOf_23 (by decide) ?_
        exact x_irp E h hf dX9_sortOf_64
  · refine lv_iconst (v := 1) E.1 E.2.1 dX9_sortOf_6 (by decide) ?_
    refine lv_goto (tgt := 64) E.1 E.2.1 dX9_sortOf_7 (by decide) ?_
    exact x_irp E h hf dX9_sortOf_64
set_option maxHeartbeats 4000000 in
set_option maxRecDepth 100000 in
theorem w_X9_next_L8 {p : Program} {l : Launch} {e : Env} {s : State} {m : MethodId} {args : Array Value} {below : List Frame} {meth : Method} {c : Code} {D : va_G} {cy : Nat → ClassId} {s00 : State} {ad : Nat → Nat} {A : Nat → Prop}  {S9 : XS}  {K : XS → Option (XS)} (E : XE p s m args meth c cX9_next 2 RX9 none D cy s00) (hk : ∀ (S1 : XS) (H : Heap) (locs : List Loc) (ls : Array Slot), K S1 = some S9 → XH D cy s00 shMod ad S1 A s H locs → lv_has ls 2 [(0, .ref (ad 0))] → W p l e (xrm 1) s m args below meth c H locs 0 0 (MQ below (xqv D cy shMod ad S9 A) args s 0 0 A) (F0 m 60 ls [])) :
    ∀ (n : Nat) (S : XS) (H : Heap) (locs : List Loc) (ls : Array Slot), f_X9_next_L8 K n S = some S9 → XH D cy s00 shMod ad S A s H locs → lv_has ls 2 [(0, .ref (ad 0))] → W p l e (xrm 1) s m args below meth c H locs 0 0 (MQ below (xqv D cy shMod ad S9 A) args s 0 0 A) (F0 m 8 ls []) := by
  intro n
  induction n with
  | zero => intro S H locs ls hf; cases hf
  | succ n ih =>
    intro S H locs ls hf h hl
    rw [f_X9_next_L8] at hf
    refine lv_aload_n E.1 E.2.1 dX9_next_8 rfl (lv_at hl 0 rfl) ?_
    refine x_get E h 0 18 rfl rfl rfl (by decide) xinX9 kw1628 dX9_next_9 ?_
    refine lv_aload_n E.1 E.2.1 dX9_next_12 rfl (lv_at hl 0 rfl) ?_
    refine x_get E h 0 11 rfl rfl rfl (by decide) xinX9 kw1621 dX9_next_13 ?_
    refine x_br hf (lv_icmp_ge (tgt := 60) E.1 E.2.1 dX9_next_16 (by decide)) (fun hf => ?_) (fun hf => ?_)
    · exact hk _ _ _ _ hf h (lv_sub hl [0] rfl)
    · refine lv_aload_n E.1 E.2.1 dX9_next_19 rfl (lv_at hl 0 rfl) ?_
      refine x_getr E h 0 8 7 rfl rfl rfl (by decide) xinX9 kw1618 dX9_next_20 ?_
      refine lv_aload_n E.1 E.2.1 dX9_next_23 rfl (lv_at hl 0 rfl) ?_
      refine x_get E h 0 18 rfl rfl rfl (by decide) xinX9 kw1628 dX9_next_24 ?_
      refine x_iald E h 7 hf rfl dX9_next_27 (fun v2 hf => ?_)
      refine lv_bipush (v := 32) E.1 E.2.1 dX9_next_28 (by decide) ?_
      refine x_br hf (lv_icmp_eq (tgt := 47) E.1 E.2.1 dX9_next_30 (by decide)) (fun hf => ?_) (fun hf => ?_)
      · refine lv_aload_n E.1 E.2.1 dX9_next_47 rfl (lv_at hl 0 rfl) ?_
        refine lv_dup E.1 E.2.1 dX9_next_48 rfl ?_
        refine x_get E h 0 18 rfl rfl rfl (by decide) xinX9 kw1628 dX9_next_49 ?_
        refine lv_iconst (v := 1) E.1 E.2.1 dX9_next_52 (by decide) ?_
        refine lv_iadd E.1 E.2.1 dX9_next_53 ?_
        refine x_put (ty := .int) E h 0 18 hf rfl rfl rfl (by decide) xinX9 tyX9_ok nmX9 kw1628 rfl (by decide +kernel) rfl rfl dX9_next_54 (fun S3 H locs hf h => ?_)
        refine lv_goto (tgt := 8) E.1 E.2.1 dX9_next_57 (by decide) ?_
        exact ih _ _ _ _ hf h (lv_sub hl [0] rfl)
      · refine lv_aload_n E.1 E.2.1 dX9_next_33 rfl (lv_at hl 0 rfl) ?_
        refine x_getr E h 0 8 7 rfl rfl rfl (by decide) xinX9 kw1618 dX9_next_34 ?_
        refine lv_aload_n E.1 E.2.1 dX9_next_37 rfl (lv_at hl 0 rfl) ?_
        refine x_get E h 0 18 rfl rfl rfl (by decide) xinX9 kw1628 dX9_next_38 ?_
        refine x_iald E h 7 hf rfl dX9_next_41 (fun v4 hf => ?_)
        refine lv_bipush (v := 10) E.1 E.2.1 dX9_next_42 (by decide) ?_
        refine x_brn hf (lv_icmp_ne (tgt := 60) E.1 E.2.1 dX9_next_44 (by decide)) (fun hf => ?_) (fun hf => ?_)
        · exact hk _ _ _ _ hf h (lv_sub hl [0] rfl)
        · refine lv_aload_n E.1 E.2.1 dX9_next_47 rfl (lv_at hl 0 rfl) ?_
          refine lv_dup E.1 E.2.1 dX9_next_48 rfl ?_
          refine x_get E h 0 18 rfl rfl rfl (by decide) xinX9 kw1628 dX9_next_49 ?_
          refine lv_iconst (v := 1) E.1 E.2.1 dX9_next_52 (by decide) ?_
          refine lv_iadd E.1 E.2.1 dX9_next_53 ?_
          refine x_put (ty := .int) E h 0 18 hf rfl rfl rfl (by decide) xinX9 tyX9_ok nmX9 kw1628 rfl (by decide +kernel) rfl rfl dX9_next_54 (fun S5 H locs hf h => ?_)
          refine lv_goto (tgt := 8) E.1 E.2.1 dX9_next_57 (by decide) ?_
          exact ih _ _ _ _ hf h (lv_sub hl [0] rfl)
set_option maxHeartbeats 4000000 in
set_option maxRecDepth 100000 in
theorem w_X9_next_L111 {p : Program} {l : Launch} {e : Env} {s : State} {m : MethodId} {args : Array Value} {below : List Frame} {meth : Method} {c : Code} {D : va_G} {cy : Nat → ClassId} {s00 : State} {ad : Nat → Nat} {A : Nat → Prop}  {S9 : XS}  {K : XS → Option (XS)} (E : XE p s m args meth c cX9_next 2 RX9 none D cy s00) (hk : ∀ (S1 : XS) (H : Heap) (locs : List Loc) (ls : Array Slot), K S1 = some S9 → XH D cy s00 shMod ad S1 A s H locs → lv_has ls 2 [(0, .ref (ad 0))] → W p l e (xrm 1) s m args below meth c H locs 0 0 (MQ below (xqv D cy shMod ad S9 A) args s 0 0 A) (F0 m 170 ls [])) :
    ∀ (n : Nat) (S : XS) (H : Heap) (locs : List Loc) (ls : Array Slot), f_X9_next_L111 K n S = some S9 → XH D cy s00 shMod ad S A s H locs → lv_has ls 2 [(0, .ref (ad 0))] → W p l e (xrm 1) s m args below meth c H locs 0 0 (MQ below (xqv D cy shMod ad S9 A) args s 0 0 A) (F0 m 111 ls []) := by
  intro n
  induction n with
  | zero => intro S H locs ls hf; cases hf
  | succ n ih =>
    intro S H locs ls hf h hl
    rw [f_X9_next_L111] at hf
    refine lv_aload_n E.1 E.2.1 dX9_next_111 rfl (lv_at hl 0 rfl) ?_
    refine x_get E h 0 17 rfl rfl rfl (by decide) xinX9 kw1627 dX9_next_112 ?_
    refine lv_iconst (v := 2) E.1 E.2.1 dX9_next_115 (by decide) ?_
    refine x_br hf (lv_icmp_eq (tgt := 127) E.1 E.2.1 dX9_next_116 (by decide)) (fun hf => ?_) (fun hf => ?_)
    · refine lv_aload_n E.1 E.2.1 dX9_next_127 rfl (lv_at hl 0 rfl) ?_
      refine x_get E h 0 19 rfl rfl rfl (by decide) xinX9 kw1629 dX9_next_128 ?_
      refine lv_aload_n E.1 E.2.1 dX9_next_131 rfl (lv_at hl 0 rfl) ?_
      refine x_get E h 0 11 rfl rfl rfl (by decide) xinX9 kw1621 dX9_next_132 ?_
      refine x_br hf (lv_icmp_ge (tgt := 170) E.1 E.2.1 dX9_next_135 (by decide)) (fun hf => ?_) (fun hf => ?_)
      · exact hk _ _ _ _ hf h (lv_sub hl [0] rfl)
      · refine lv_aload_n E.1 E.2.1 dX9_next_138 rfl (lv_at hl 0 rfl) ?_
        refine x_getr E h 0 8 7 rfl rfl rfl (by decide) xinX9 kw1618 dX9_next_139 ?_
        refine lv_aload_n E.1 E.2.1 dX9_next_142 rfl (lv_at hl 0 rfl) ?_
        refine x_get E h 0 19 rfl rfl rfl (by decide) xinX9 kw1629 dX9_next_143 ?_
        refine x_iald E h 7 hf rfl dX9_next_146 (fun v12 hf => ?_)
        refine x_callsp E h hl hf (fun r0 hr => c_X9_sortOf l D cy s00 _ _ v12 r0 hr) m_X9_sortOf kw1325 rfl rfl (Nat.le_of_ble_eq_true rfl) ⟨by decide, by decide⟩ ⟨Nat.zero_le _, Nat.zero_le _⟩ dX9_next_147 (fun v13 H locs hf h => ?_)
        refine lv_aload_n E.1 E.2.1 dX9_next_150 rfl (lv_at hl 0 rfl) ?_
        refine x_get E h 0 17 rfl rfl rfl (by decide) xinX9 kw1627 dX9_next_151 ?_
        refine x_brn hf (lv_icmp_ne (tgt := 170) E.1 E.2.1 dX9_next_154 (by decide)) (fun hf => ?_) (fun hf => ?_)
        · exact hk _ _ _ _ hf h (lv_sub hl [0] rfl)
        · refine lv_aload_n E.1 E.2.1 dX9_next_157 rfl (lv_at hl 0 rfl) ?_
          refine lv_dup E.1 E.2.1 dX9_next_158 rfl ?_
          refine x_get E h 0 19 rfl rfl rfl (by decide) xinX9 kw1629 dX9_next_159 ?_
          refine lv_iconst (v := 1) E.1 E.2.1 dX9_next_162 (by decide) ?_
          refine lv_iadd E.1 E.2.1 dX9_next_163 ?_
          refine x_put (ty := .int) E h 0 19 hf rfl rfl rfl (by decide) xinX9 tyX9_ok nmX9 kw1629 rfl (by decide +kernel) rfl rfl dX9_next_164 (fun S14 H locs hf h => ?_)
          refine lv_goto (tgt := 111) E.1 E.2.1 dX9_next_167 (by decide) ?_
          exact ih _ _ _ _ hf h (lv_sub hl [0] rfl)
    · refine lv_aload_n E.1 E.2.1 dX9_next_119 rfl (lv_at hl 0 rfl) ?_
      refine x_get E h 0 17 rfl rfl rfl (by decide) xinX9 kw1627 dX9_next_120 ?_
      refine lv_iconst (v := 3) E.1 E.2.1 dX9_next_123 (by decide) ?_
      refine x_brn hf (lv_icmp_ne (tgt := 170) E.1 E.2.1 dX9_next_124 (by decide)) (fun hf => ?_) (fun hf => ?_)
      · exact hk _ _ _ _ hf h (lv_sub hl [0] rfl)
      · refine lv_aload_n E.1 E.2.1 dX9_next_127 rfl (lv_at hl 0 rfl) ?_
        refine x_get E h 0 19 rfl rfl rfl (by decide) xinX9 kw1629 dX9_next_128 ?_
        refine lv_aload_n E.1 E.2.1 dX9_next_131 rfl (lv_at hl 0 rfl) ?_
        refine x_get E h 0 11 rfl rfl rfl (by decide) xinX9 kw1621 dX9_next_132 ?_
        refine x_br hf (lv_icmp_ge (tgt := 170) E.1 E.2.1 dX9_next_135 (by decide)) (fun hf => ?_) (fun hf => ?_)
        · exact hk _ _ _ _ hf h (lv_sub hl [0] rfl)
        · refine lv_aload_n E.1 E.2.1 dX9_next_138 rfl (lv_at hl 0 rfl) ?_
          refine x_getr E h 0 8 7 rfl rfl rfl (by decide) xinX9 kw1618 dX9_next_139 ?_
          refine lv_aload_n E.1 E.2.1 dX9_next_142 rfl (lv_at hl 0 rfl) ?_
          refine x_get E h 0 19 rfl rfl rfl (by decide) xinX9 kw1629 dX9_next_143 ?_
          refine x_iald E h 7 hf rfl dX9_next_146 (fun v15 hf => ?_)
          refine x_callsp E h hl hf (fun r0 hr => c_X9_sortOf l D cy s00 _ _ v15 r0 hr) m_X9_sortOf kw1325 rfl rfl (Nat.le_of_ble_eq_true rfl) ⟨by decide, by decide⟩ ⟨Nat.zero_le _, Nat.zero_le _⟩ dX9_next_147 (fun v16 H locs hf h => ?_)
          refine lv_aload_n E.1 E.2.1 dX9_next_150 rfl (lv_at hl 0 rfl) ?_
          refine x_get E h 0 17 rfl rfl rfl (by decide) xinX9 kw1627 dX9_next_151 ?_
          refine x_brn hf (lv_icmp_ne (tgt := 170) E.1 E.2.1 dX9_next_154 (by decide)) (fun hf => ?_) (fun hf => ?_)
          · exact hk _ _ _ _ hf h (lv_sub hl [0] rfl)
          · refine lv_aload_n E.1 E.2.1 dX9_next_157 rfl (lv_at hl 0 rfl) ?_
            refine lv_dup E.1 E.2.1 dX9_next_158 rfl ?_
            refine x_get E h 0 19 rfl rfl rfl (by decide) xinX9 kw1629 dX9_next_159 ?_
            refine lv_iconst (v := 1) E.1 E.2.1 dX9_next_162 (by decide) ?_
            refine lv_iadd E.1 E.2.1 dX9_next_163 ?_
            refine x_put (ty := .int) E h 0 19 hf rfl rfl rfl (by decide) xinX9 tyX9_ok nmX9 kw1629 rfl (by decide +kernel) rfl rfl dX9_next_164 (fun S17 H locs hf h => ?_)
            refine lv_goto (tgt := 111) E.1 E.2.1 dX9_next_167 (by decide) ?_
            exact ih _ _ _ _ hf h (lv_sub hl [0] rfl)
set_option maxHeartbeats 4000000 in
set_option maxRecDepth 100000 in
theorem w_X9_next_L207 {p : Program} {l : Launch} {e : Env} {s : State} {m : MethodId} {args : Array Value} {below : List Frame} {meth : Method} {c : Code} {D : va_G} {cy : Nat → ClassId} {s00 : State} {ad : Nat → Nat} {A : Nat → Prop}  {S9 : XS}  {K : Int32 → XS → Option (XS)} (E : XE p s m args meth c cX9_next 2 RX9 none D cy s00) (hk : ∀ (m1 : Int32) (S1 : XS) (H : Heap) (locs : List Loc) (ls : Array Slot), K m1 S1 = some S9 → XH D cy s00 shMod ad S1 A s H locs → lv_has ls 2 [(0, .ref (ad 0)), (1, .int m1)] → W p l e (xrm 1) s m args below meth c H locs 0 0 (MQ below (xqv D cy shMod ad S9 A) args s 0 0 A) (F0 m 250 ls [])) :
    ∀ (n : Nat) (m1 : Int32) (S : XS) (H : Heap) (locs : List Loc) (ls : Array Slot), f_X9_next_L207 K n m1 S = some S9 → XH D cy s00 shMod ad S A s H locs → lv_has ls 2 [(0, .ref (ad 0)), (1, .int m1)] → W p l e (xrm 1) s m args below meth c H locs 0 0 (MQ below (xqv D cy shMod ad S9 A) args s 0 0 A) (F0 m 207 ls []) := by
  intro n
  induction n with
  | zero => intro m1 S H locs ls hf; cases hf
  | succ n ih =>
    intro m1 S H locs ls hf h hl
    rw [f_X9_next_L207] at hf
    refine lv_iload_n E.1 E.2.1 dX9_next_207 rfl (lv_at hl 1 rfl) ?_
    refine lv_aload_n E.1 E.2.1 dX9_next_208 rfl (lv_at hl 0 rfl) ?_
    refine x_get E h 0 19 rfl rfl rfl (by decide) xinX9 kw1629 dX9_next_209 ?_
    refine x_br hf (lv_icmp_ge (tgt := 250) E.1 E.2.1 dX9_next_212 (by decide)) (fun hf => ?_) (fun hf => ?_)
    · exact hk _ _ _ _ _ hf h (lv_sub hl [0, 1] rfl)
    · refine lv_aload_n E.1 E.2.1 dX9_next_215 rfl (lv_at hl 0 rfl) ?_
      refine x_get E h 0 17 rfl rfl rfl (by decide) xinX9 kw1627 dX9_next_216 ?_
      refine lv_iconst (v := 3) E.1 E.2.1 dX9_next_219 (by decide) ?_
      refine x_brn hf (lv_icmp_ne (tgt := 250) E.1 E.2.1 dX9_next_220 (by decide)) (fun hf => ?_) (fun hf => ?_)
      · exact hk _ _ _ _ _ hf h (lv_sub hl [0, 1] rfl)
      · refine lv_aload_n E.1 E.2.1 dX9_next_223 rfl (lv_at hl 0 rfl) ?_
        refine lv_bipush (v := 10) E.1 E.2.1 dX9_next_224 (by decide) ?_
        refine lv_aload_n E.1 E.2.1 dX9_next_226 rfl (lv_at hl 0 rfl) ?_
        refine x_get E h 0 20 rfl rfl rfl (by decide) xinX9 kw1630 dX9_next_227 ?_
        refine lv_imul E.1 E.2.1 dX9_next_230 ?_
        refine lv_aload_n E.1 E.2.1 dX9_next_231 rfl (lv_at hl 0 rfl) ?_
        refine x_getr E h 0 8 7 rfl rfl rfl (by decide) xinX9 kw1618 dX9_next_232 ?_
        refine lv_iload_n E.1 E.2.1 dX9_next_235 rfl (lv_at hl 1 rfl) ?_
        refine x_iald E h 7 hf rfl dX9_next_236 (fun v21 hf => ?_)
        refine lv_iadd E.1 E.2.1 dX9_next_237 ?_
        refine lv_bipush (v := 48) E.1 E.2.1 dX9_next_238 (by decide) ?_
        refine lv_isub E.1 E.2.1 dX9_next_240 ?_
        refine x_put (ty := .int) E h 0 20 hf rfl rfl rfl (by decide) xinX9 tyX9_ok nmX9 kw1630 rfl (by decide +kernel) rfl rfl dX9_next_241 (fun S22 H locs hf h => ?_)
        refine x_nv hf (fun v23 e9 hf => ?_)
        refine lv_iinc (v := v23) (lv' := [(1, .int v23), (0, .ref (ad 0))]) E.1 E.2.1 dX9_next_244 hl (k := 1) rfl (by rw [e9]; rfl) (by decide) rfl (fun ls hl => ?_)
        refine lv_goto (tgt := 207) E.1 E.2.1 dX9_next_247 (by decide) ?_
        exact ih _ _ _ _ _ hf h (lv_sub hl [1, 0] rfl)
set_option maxHeartbeats 4000000 in
set_option maxRecDepth 100000 in
theorem c_X9_next (l : Launch) (D : va_G) (cy : Nat → ClassId) (s00 : State) (ad : Nat → Nat) (S : XS) (S9 : XS) (hf : f_X9_next S = some S9) : XV l yX9_next cX9_next 2 none 1 D cy s00 shMod ad S [.ref (ad 0)] S9 := by
  refine XV.of (by decide) [(0, .ref (ad 0))] rfl (Nat.le_of_ble_eq_true rfl) (fun p e s m args below meth c A ls E h hl => ?_)
  unfold f_X9_next at hf
  refine lv_aload_n E.1 E.2.1 dX9_next_0 rfl (lv_at hl 0 rfl) ?_
  refine lv_aload_n E.1 E.2.1 dX9_next_1 rfl (lv_at hl 0 rfl) ?_
  refine x_get E h 0 19 rfl rfl rfl (by decide) xinX9 kw1629 dX9_next_2 ?_
  refine x_put (ty := .int) E h 0 18 hf rfl rfl rfl (by decide) xinX9 tyX9_ok nmX9 kw1628 rfl (by decide +kernel) rfl rfl dX9_next_5 (fun S1 H locs hf h => ?_)
  refine w_X9_next_L8 E ?_ _ _ _ _ _ hf h (lv_sub hl [0] rfl)
  intro S6 H locs ls hf h hl
  refine lv_aload_n E.1 E.2.1 dX9_next_60 rfl (lv_at hl 0 rfl) ?_
  refine lv_aload_n E.1 E.2.1 dX9_next_61 rfl (lv_at hl 0 rfl) ?_
  refine x_get E h 0 18 rfl rfl rfl (by decide) xinX9 kw1628 dX9_next_62 ?_
  refine x_put (ty := .int) E h 0 19 hf rfl rfl rfl (by decide) xinX9 tyX9_ok nmX9 kw1629 rfl (by decide +kernel) rfl rfl dX9_next_65 (fun S7 H locs hf h => ?_)
  refine lv_aload_n E.1 E.2.1 dX9_next_68 rfl (lv_at hl 0 rfl) ?_
  refine x_get E h 0 18 rfl rfl rfl (by decide) xinX9 kw1628 dX9_next_69 ?_
  refine lv_aload_n E.1 E.2.1 dX9_next_72 rfl (lv_at hl 0 rfl) ?_
  refine x_get E h 0 11 rfl rfl rfl (by decide) xinX9 kw1621 dX9_next_73 ?_
  refine x_brn hf (lv_icmp_ne (tgt := 85) E.1 E.2.1 dX9_next_76 (by decide)) (fun hf => ?_) (fun hf => ?_)
  · refine lv_aload_n E.1 E.2.1 dX9_next_85 rfl (lv_at hl 0 rfl) ?_
    refine lv_aload_n E.1 E.2.1 dX9_next_86 rfl (lv_at hl 0 rfl) ?_
    refine x_getr E h 0 8 7 rfl rfl rfl (by decide) xinX9 kw1618 dX9_next_87 ?_
    refine lv_aload_n E.1 E.2.1 dX9_next_90 rfl (lv_at hl 0 rfl) ?_
    refine x_get E h 0 18 rfl rfl rfl (by decide) xinX9 kw1628 dX9_next_91 ?_
    refine x_iald E h 7 hf rfl dX9_next_94 (fun v8 hf => ?_)
    refine x_callsp E h hl hf (fun r0 hr => c_X9_sortOf l D cy s00 _ _ v8 r0 hr) m_X9_sortOf kw1325 rfl rfl (Nat.le_of_ble_eq_true rfl) ⟨by decide, by decide⟩ ⟨Nat.zero_le _, Nat.zero_le _⟩ dX9_next_95 (fun v9 H locs hf h => ?_)
    refine x_put (ty := .int) E h 0 17 hf rfl rfl rfl (by decide) xinX9 tyX9_ok nmX9 kw1627 rfl (by decide +kernel) rfl rfl dX9_next_98 (fun S10 H locs hf h => ?_)
    refine lv_aload_n E.1 E.2.1 dX9_next_101 rfl (lv_at hl 0 rfl) ?_
    refine lv_dup E.1 E.2.1 dX9_next_102 rfl ?_
    refine x_get E h 0 19 rfl rfl rfl (by decide) xinX9 kw1629 dX9_next_103 ?_
    refine lv_iconst (v := 1) E.1 E.2.1 dX9_next_106 (by decide) ?_
    refine lv_iadd E.1 E.2.1 dX9_next_107 ?_
    refine x_put (ty := .int) E h 0 19 hf rfl rfl rfl (by decide) xinX9 tyX9_ok nmX9 kw1629 rfl (by decide +kernel) rfl rfl dX9_next_108 (fun S11 H locs hf h => ?_)
    refine w_X9_next_L111 E ?_ _ _ _ _ _ hf h (lv_sub hl [0] rfl)
    intro S18 H locs ls hf h hl
    refine lv_aload_n E.1 E.2.1 dX9_next_170 rfl (lv_at hl 0 rfl) ?_
    refine x_get E h 0 17 rfl rfl rfl (by decide) xinX9 kw1627 dX9_next_171 ?_
    refine lv_iconst (v := 3) E.1 E.2.1 dX9_next_174 (by decide) ?_
    refine x_brn hf (lv_icmp_ne (tgt := 197) E.1 E.2.1 dX9_next_175 (by decide)) (fun hf => ?_) (fun hf => ?_)
    · refine lv_aload_n E.1 E.2.1 dX9_next_197 rfl (lv_at hl 0 rfl) ?_
      refine lv_iconst (v := 0) E.1 E.2.1 dX9_next_198 (by decide) ?_
      refine x_put (ty := .int) E h 0 20 hf rfl rfl rfl (by decide) xinX9 tyX9_ok nmX9 kw1630 rfl (by decide +kernel) rfl rfl dX9_next_199 (fun S19 H locs hf h => ?_)
      refine lv_aload_n E.1 E.2.1 dX9_next_202 rfl (lv_at hl 0 rfl) ?_
      refine x_get E h 0 18 rfl rfl rfl (by decide) xinX9 kw1628 dX9_next_203 ?_
      refine x_nm hf (fun v20 hf => ?_)
      refine lv_istore_n (lv' := [(1, .int v20), (0, .ref (ad 0))]) E.1 E.2.1 dX9_next_206 rfl hl (by decide) rfl (fun ls hl => ?_)
      refine w_X9_next_L207 E ?_ _ _ _ _ _ _ hf h (lv_sub hl [1, 0] rfl)
      intro v24 S25 H locs ls hf h hl
      exact x_vret E h hf dX9_next_250
    · refine lv_aload_n E.1 E.2.1 dX9_next_178 rfl (lv_at hl 0 rfl) ?_
      refine x_get E h 0 19 rfl rfl rfl (by decide) xinX9 kw1629 dX9_next_179 ?_
      refine lv_aload_n E.1 E.2.1 dX9_next_182 rfl (lv_at hl 0 rfl) ?_
      refine x_get E h 0 18 rfl rfl rfl (by decide) xinX9 kw1628 dX9_next_183 ?_
      refine lv_isub E.1 E.2.1 dX9_next_186 ?_
      refine lv_iconst (v := 3) E.1 E.2.1 dX9_next_187 (by decide) ?_
      refine x_br hf (lv_icmp_le (tgt := 197) E.1 E.2.1 dX9_next_188 (by decide)) (fun hf => ?_) (fun hf => ?_)
      · refine lv_aload_n E.1 E.2.1 dX9_next_197 rfl (lv_at hl 0 rfl) ?_
        refine lv_iconst (v := 0) E.1 E.2.1 dX9_next_198 (by decide) ?_
        refine x_put (ty := .int) E h 0 20 hf rfl rfl rfl (by decide) xinX9 tyX9_ok nmX9 kw1630 rfl (by decide +kernel) rfl rfl dX9_next_199 (fun S26 H locs hf h => ?_)
        refine lv_aload_n E.1 E.2.1 dX9_next_202 rfl (lv_at hl 0 rfl) ?_
        refine x_get E h 0 18 rfl rfl rfl (by decide) xinX9 kw1628 dX9_next_203 ?_
        refine x_nm hf (fun v27 hf => ?_)
        refine lv_istore_n (lv' := [(1, .int v27), (0, .ref (ad 0))]) E.1 E.2.1 dX9_next_206 rfl hl (by decide) rfl (fun ls hl => ?_)
        refine w_X9_next_L207 E ?_ _ _ _ _ _ _ hf h (lv_sub hl [1, 0] rfl)
        intro v28 S29 H locs ls hf h hl
        exact x_vret E h hf dX9_next_250
      · refine lv_aload_n E.1 E.2.1 dX9_next_191 rfl (lv_at hl 0 rfl) ?_
        refine lv_bipush (v := 6) E.1 E.2.1 dX9_next_192 (by decide) ?_
        refine x_put (ty := .int) E h 0 17 hf rfl rfl rfl (by decide) xinX9 tyX9_ok nmX9 kw1627 rfl (by decide +kernel) rfl rfl dX9_next_194 (fun S30 H locs hf h => ?_)
        refine lv_aload_n E.1 E.2.1 dX9_next_197 rfl (lv_at hl 0 rfl) ?_
        refine lv_iconst (v := 0) E.1 E.2.1 dX9_next_198 (by decide) ?_
        refine x_put (ty := .int) E h 0 20 hf rfl rfl rfl (by decide) xinX9 tyX9_ok nmX9 kw1630 rfl (by decide +kernel) rfl rfl dX9_next_199 (fun S31 H locs hf h => ?_)
        refine lv_aload_n E.1 E.2.1 dX9_next_202 rfl (lv_at hl 0 rfl) ?_
        refine x_get E h 0 18 rfl rfl rfl (by decide) xinX9 kw1628 dX9_next_203 ?_
        refine x_nm hf (fun v32 hf => ?_)
        refine lv_istore_n (lv' := [(1, .int v32), (0, .ref (ad 0))]) E.1 E.2.1 dX9_next_206 rfl hl (by decide) rfl (fun ls hl => ?_)
        refine w_X9_next_L207 E ?_ _ _ _ _ _ _ hf h (lv_sub hl [1, 0] rfl)
        intro v33 S34 H locs ls hf h hl
        exact x_vret E h hf dX9_next_250
  · refine lv_aload_n E.1 E.2.1 dX9_next_79 rfl (lv_at hl 0 rfl) ?_
    refine lv_iconst (v := 0) E.1 E.2.1 dX9_next_80 (by decide) ?_
    refine x_put (ty := .int) E h 0 17 hf rfl rfl rfl (by decide) xinX9 tyX9_ok nmX9 kw1627 rfl (by decide +kernel) rfl rfl dX9_next_81 (fun S35 H locs hf h => ?_)
    exact x_vret E h hf dX9_next_84
set_option maxHeartbeats 4000000 in
set_option maxRecDepth 100000 in
theorem w_X9_says_L28 {p : Program} {l : Launch} {e : Env} {s : State} {m : MethodId} {args : Array Value} {below : List Frame} {meth : Method} {c : Code} {D : va_G} {cy : Nat → ClassId} {s00 : State} {ad : Nat → Nat} {A : Nat → Prop} (hG : XG s00) {aK0 aV0 : Nat} {byt0 : List Int32} (g0 : XStr s00 aK0 aV0 byt0) (hlen0 : byt0.length < 2 ^ 31) {r9 : Int32}  {S : XS} {K : Int32 → Option (Int32)} (E : XE p s m args meth c cX9_says 3 RX9 (some .boolean) D cy s00) (hk : ∀ (m2 : Int32) (H : Heap) (locs : List Loc) (ls : Array Slot), K m2 = some r9 → XH D cy s00 shMod ad S A s H locs → lv_has ls 3 [(0, .ref (ad 0)), (1, .ref aK0), (2, .int m2)] → W p l e (xrm 4) s m args below meth c H locs 0 0 (MQ below (xqi D cy shMod ad r9 S A) args s 0 0 A) (F0 m 63 ls [])) :
    ∀ (n : Nat) (m2 : Int32) (H : Heap) (locs : List Loc) (ls : Array Slot), f_X9_says_L28 byt0 K S n m2 = some r9 → XH D cy s00 shMod ad S A s H locs → lv_has ls 3 [(0, .ref (ad 0)), (1, .ref aK0), (2, .int m2)] → W p l e (xrm 4) s m args below meth c H locs 0 0 (MQ below (xqi D cy shMod ad r9 S A) args s 0 0 A) (F0 m 28 ls []) := by
  intro n
  induction n with
  | zero => intro m2 H locs ls hf; cases hf
  | succ n ih =>
    intro m2 H locs ls hf h hl
    rw [f_X9_says_L28] at hf
    refine lv_iload_n E.1 E.2.1 dX9_says_28 rfl (lv_at hl 2 rfl) ?_
    refine lv_aload_n E.1 E.2.1 dX9_says_29 rfl (lv_at hl 1 rfl) ?_
    refine x_slen hG g0 E h hl kw1314 (Nat.le_of_ble_eq_true rfl) ⟨by decide, by decide⟩ ⟨Nat.zero_le _, Nat.zero_le _⟩ dX9_says_30 (fun H locs h => ?_)
    refine x_br hf (lv_icmp_ge (tgt := 63) E.1 E.2.1 dX9_says_33 (by decide)) (fun hf => ?_) (fun hf => ?_)
    · exact hk _ _ _ _ hf h (lv_sub hl [0, 1, 2] rfl)
    · refine lv_aload_n E.1 E.2.1 dX9_says_36 rfl (lv_at hl 0 rfl) ?_
      refine x_getr E h 0 8 7 rfl rfl rfl (by decide) xinX9 kw1618 dX9_says_37 ?_
      refine lv_aload_n E.1 E.2.1 dX9_says_40 rfl (lv_at hl 0 rfl) ?_
      refine x_get E h 0 18 rfl rfl rfl (by decide) xinX9 kw1628 dX9_says_41 ?_
      refine lv_iload_n E.1 E.2.1 dX9_says_44 rfl (lv_at hl 2 rfl) ?_
      refine lv_iadd E.1 E.2.1 dX9_says_45 ?_
      refine x_iald E h 7 hf rfl dX9_says_46 (fun v1 hf => ?_)
      refine lv_aload_n E.1 E.2.1 dX9_says_47 rfl (lv_at hl 1 rfl) ?_
      refine lv_iload_n E.1 E.2.1 dX9_says_48 rfl (lv_at hl 2 rfl) ?_
      refine x_sch hG g0 hlen0 E h hl hf kw1315 (Nat.le_of_ble_eq_true rfl) ⟨by decide, by decide⟩ ⟨Nat.zero_le _, Nat.zero_le _⟩ dX9_says_49 (fun v2 H locs hf h => ?_)
      refine x_br hf (lv_icmp_eq (tgt := 57) E.1 E.2.1 dX9_says_52 (by decide)) (fun hf => ?_) (fun hf => ?_)
      · refine x_nv hf (fun v3 e9 hf => ?_)
        refine lv_iinc (v := v3) (lv' := [(2, .int v3), (0, .ref (ad 0)), (1, .ref aK0)]) E.1 E.2.1 dX9_says_57 hl (k := 2) rfl (by rw [e9]; rfl) (by decide) rfl (fun ls hl => ?_)
        refine lv_goto (tgt := 28) E.1 E.2.1 dX9_says_60 (by decide) ?_
        exact ih _ _ _ _ hf h (lv_sub hl [1, 2, 0] rfl)
      · refine lv_iconst (v := 0) E.1 E.2.1 dX9_says_55 (by decide) ?_
        exact x_zrc E h (by decide) hf dX9_says_56
set_option maxHeartbeats 4000000 in
set_option maxRecDepth 100000 in
theorem c_X9_says (l : Launch) (D : va_G) (cy : Nat → ClassId) (s00 : State) (ad : Nat → Nat) (hG : XG s00) {aK0 aV0 : Nat} {byt0 : List Int32} (g0 : XStr s00 aK0 aV0 byt0) (hlen0 : byt0.length < 2 ^ 31) (S : XS) (r9 : Int32) (hf : f_X9_says S byt0 = some r9) : XI l yX9_says cX9_says 3 (some .boolean) 4 D cy s00 shMod ad S [.ref (ad 0), .ref aK0] r9 S := by
  refine XI.of (by decide) [(0, .ref (ad 0)), (1, .ref aK0)] rfl (Nat.le_of_ble_eq_true rfl) (fun p e s m args below meth c A ls E h hl => ?_)
  unfold f_X9_says at hf
  refine lv_aload_n E.1 E.2.1 dX9_says_0 rfl (lv_at hl 0 rfl) ?_
  refine x_get E h 0 17 rfl rfl rfl (by decide) xinX9 kw1627 dX9_says_1 ?_
  refine lv_iconst (v := 2) E.1 E.2.1 dX9_says_4 (by decide) ?_
  refine x_brn hf (lv_icmp_ne (tgt := 24) E.1 E.2.1 dX9_says_5 (by decide)) (fun hf => ?_) (fun hf => ?_)
  · refine lv_iconst (v := 0) E.1 E.2.1 dX9_says_24 (by decide) ?_
    exact x_zrc E h (by decide) hf dX9_says_25
  · refine lv_aload_n E.1 E.2.1 dX9_says_8 rfl (lv_at hl 0 rfl) ?_
    refine x_get E h 0 19 rfl rfl rfl (by decide) xinX9 kw1629 dX9_says_9 ?_
    refine lv_aload_n E.1 E.2.1 dX9_says_12 rfl (lv_at hl 0 rfl) ?_
    refine x_get E h 0 18 rfl rfl rfl (by decide) xinX9 kw1628 dX9_says_13 ?_
    refine lv_isub E.1 E.2.1 dX9_says_16 ?_
    refine lv_aload_n E.1 E.2.1 dX9_says_17 rfl (lv_at hl 1 rfl) ?_
    refine x_slen hG g0 E h hl kw1314 (Nat.le_of_ble_eq_true rfl) ⟨by decide, by decide⟩ ⟨Nat.zero_le _, Nat.zero_le _⟩ dX9_says_18 (fun H locs h => ?_)
    refine x_br hf (lv_icmp_eq (tgt := 26) E.1 E.2.1 dX9_says_21 (by decide)) (fun hf => ?_) (fun hf => ?_)
    · refine lv_iconst (v := 0) E.1 E.2.1 dX9_says_26 (by decide) ?_
      refine lv_istore_n (lv' := [(2, .int 0), (0, .ref (ad 0)), (1, .ref aK0)]) E.1 E.2.1 dX9_says_27 rfl hl (by decide) rfl (fun ls hl => ?_)
      refine w_X9_says_L28 hG g0 hlen0 E ?_ _ _ _ _ _ hf h (lv_sub hl [1, 2, 0] rfl)
      intro v4 H locs ls hf h hl
      refine lv_iconst (v := 1) E.1 E.2.1 dX9_says_63 (by decide) ?_
      exact x_zrc E h (by decide) hf dX9_says_64
    · refine lv_iconst (v := 0) E.1 E.2.1 dX9_says_24 (by decide) ?_
      exact x_zrc E h (by decide) hf dX9_says_25
set_option maxHeartbeats 4000000 in
set_option maxRecDepth 100000 in
theorem c_X9_fail (l : Launch) (D : va_G) (cy : Nat → ClassId) (s00 : State) (ad : Nat → Nat) (S : XS) (p0 : Int32) (r9 : Int32) (S9 : XS) (hf : f_X9_fail S p0 = some (r9, S9)) : XI l yX9_fail cX9_fail 2 (some .boolean) 0 D cy s00 shMod ad S [.ref (ad 0), .int p0] r9 S9 := by
  refine XI.of (by decide) [(0, .ref (ad 0)), (1, .int p0)] rfl (Nat.le_of_ble_eq_true rfl) (fun p e s m args below meth c A ls E h hl => ?_)
  unfold f_X9_fail at hf
  refine lv_aload_n E.1 E.2.1 dX9_fail_0 rfl (lv_at hl 0 rfl) ?_
  refine x_get E h 0 12 rfl rfl rfl (by decide) xinX9 kw1622 dX9_fail_1 ?_
  refine x_brn hf (lv_if_ne (tgt := 20) E.1 E.2.1 dX9_fail_4 (by decide)) (fun hf => ?_) (fun hf => ?_)
  · refine lv_iconst (v := 0) E.1 E.2.1 dX9_fail_20 (by decide) ?_
    exact x_zic E h (by decide) hf dX9_fail_21
  · refine lv_aload_n E.1 E.2.1 dX9_fail_7 rfl (lv_at hl 0 rfl) ?_
    refine lv_iload_n E.1 E.2.1 dX9_fail_8 rfl (lv_at hl 1 rfl) ?_
    refine x_put (ty := .int) E h 0 12 hf rfl rfl rfl (by decide) xinX9 tyX9_ok nmX9 kw1622 rfl (by decide +kernel) rfl rfl dX9_fail_9 (fun S1 H locs hf h => ?_)
    refine lv_aload_n E.1 E.2.1 dX9_fail_12 rfl (lv_at hl 0 rfl) ?_
    refine lv_aload_n E.1 E.2.1 dX9_fail_13 rfl (lv_at hl 0 rfl) ?_
    refine x_get E h 0 18 rfl rfl rfl (by decide) xinX9 kw1628 dX9_fail_14 ?_
    refine x_put (ty := .int) E h 0 13 hf rfl rfl rfl (by decide) xinX9 tyX9_ok nmX9 kw1623 rfl (by decide +kernel) rfl rfl dX9_fail_17 (fun S2 H locs hf h => ?_)
    refine lv_iconst (v := 0) E.1 E.2.1 dX9_fail_20 (by decide) ?_
    exact x_zic E h (by decide) hf dX9_fail_21
set_option maxHeartbeats 4000000 in
set_option maxRecDepth 100000 in
theorem c_X9_is (l : Launch) (D : va_G) (cy : Nat → ClassId) (s00 : State) (ad : Nat → Nat) (S : XS) (p0 : Int32) (r9 : Int32) (S9 : XS) (hf : f_X9_is S p0 = some (r9, S9)) : XI l yX9_is cX9_is 2 (some .boolean) 1 D cy s00 shMod ad S [.ref (ad 0), .int p0] r9 S9 := by
  refine XI.of (by decide) [(0, .ref (ad 0)), (1, .int p0)] rfl (Nat.le_of_ble_eq_true rfl) (fun p e s m args below meth c A ls E h hl => ?_)
  unfold f_X9_is at hf
  refine lv_aload_n E.1 E.2.1 dX9_is_0 rfl (lv_at hl 0 rfl) ?_
  refine x_get E h 0 17 rfl rfl rfl (by decide) xinX9 kw1627 dX9_is_1 ?_
  refine lv_iload_n E.1 E.2.1 dX9_is_4 rfl (lv_at hl 1 rfl) ?_
  refine x_br hf (lv_icmp_eq (tgt := 16) E.1 E.2.1 dX9_is_5 (by decide)) (fun hf => ?_) (fun hf => ?_)
  · refine lv_iconst (v := 1) E.1 E.2.1 dX9_is_16 (by decide) ?_
    refine lv_goto (tgt := 21) E.1 E.2.1 dX9_is_17 (by decide) ?_
    exact x_zic E h (by decide) hf dX9_is_21
  · refine lv_aload_n E.1 E.2.1 dX9_is_8 rfl (lv_at hl 0 rfl) ?_
    refine lv_iconst (v := 1) E.1 E.2.1 dX9_is_9 (by decide) ?_
    refine x_calli E h hl 0 hf (fun r0 Sq0 hr => c_X9_fail l D cy s00 _ S 1 r0 Sq0 hr) m_X9_fail rfl rfl kw1337 rfl rfl (Nat.le_of_ble_eq_true rfl) ⟨by decide, by decide⟩ ⟨Nat.zero_le _, Nat.zero_le _⟩ dX9_is_10 (fun v1 S2 H locs hf h => ?_)
    refine x_br hf (lv_if_eq (tgt := 20) E.1 E.2.1 dX9_is_13 (by decide)) (fun hf => ?_) (fun hf => ?_)
    · refine lv_iconst (v := 0) E.1 E.2.1 dX9_is_20 (by decide) ?_
      exact x_zic E h (by decide) hf dX9_is_21
    · refine lv_iconst (v := 1) E.1 E.2.1 dX9_is_16 (by decide) ?_
      refine lv_goto (tgt := 21) E.1 E.2.1 dX9_is_17 (by decide) ?_
      exact x_zic E h (by decide) hf dX9_is_21
set_option maxHeartbeats 4000000 in
set_option maxRecDepth 100000 in
theorem c_X9_laterWord (l : Launch) (D : va_G) (cy : Nat → ClassId) (s00 : State) (ad : Nat → Nat) (hG : XG s00) (S : XS) (r9 : Int32) (hf : f_X9_laterWord S = some r9) : XI l yX9_laterWord cX9_laterWord 1 (some .int) 5 D cy s00 shMod ad S [.ref (ad 0)] r9 S := by
  refine XI.of (by decide) [(0, .ref (ad 0))] rfl (Nat.le_of_ble_eq_true rfl) (fun p e s m args below meth c A ls E h hl => ?_)
  unfold f_X9_laterWord at hf
  refine lv_aload_n E.1 E.2.1 dX9_laterWord_0 rfl (lv_at hl 0 rfl) ?_
  refine x_ldcwS hG E 18 (byt := lb18) rfl dX9_laterWord_1 (fun aK1 aV1 g1 => ?_)
  refine x_callp E h hl 0 hf (fun r0 hr => c_X9_says l D cy s00 _ hG g1 (by decide) S  r0 hr) m_X9_says rfl rfl kw1333 rfl rfl (Nat.le_of_ble_eq_true rfl) ⟨by decide, by decide⟩ ⟨Nat.zero_le _, Nat.zero_le _⟩ dX9_laterWord_4 (fun v2 H locs hf h => ?_)
  refine x_br hf (lv_if_eq (tgt := 15) E.1 E.2.1 dX9_laterWord_7 (by decide)) (fun hf => ?_) (fun hf => ?_)
  · refine lv_aload_n E.1 E.2.1 dX9_laterWord_15 rfl (lv_at hl 0 rfl) ?_
    refine x_ldcwS hG E 19 (byt := lb19) rfl dX9_laterWord_16 (fun aK3 aV3 g3 => ?_)
    refine x_callp E h hl 0 hf (fun r0 hr => c_X9_says l D cy s00 _ hG g3 (by decide) S  r0 hr) m_X9_says rfl rfl kw1333 rfl rfl (Nat.le_of_ble_eq_true rfl) ⟨by decide, by decide⟩ ⟨Nat.zero_le _, Nat.zero_le _⟩ dX9_laterWord_19 (fun v4 H locs hf h => ?_)
    refine x_br hf (lv_if_eq (tgt := 30) E.1 E.2.1 dX9_laterWord_22 (by decide)) (fun hf => ?_) (fun hf => ?_)
    · refine lv_aload_n E.1 E.2.1 dX9_laterWord_30 rfl (lv_at hl 0 rfl) ?_
      refine x_ldcwS hG E 20 (byt := lb20) rfl dX9_laterWord_31 (fun aK5 aV5 g5 => ?_)
      refine x_callp E h hl 0 hf (fun r0 hr => c_X9_says l D cy s00 _ hG g5 (by decide) S  r0 hr) m_X9_says rfl rfl kw1333 rfl rfl (Nat.le_of_ble_eq_true rfl) ⟨by decide, by decide⟩ ⟨Nat.zero_le _, Nat.zero_le _⟩ dX9_laterWord_34 (fun v6 H locs hf h => ?_)
      refine x_br hf (lv_if_eq (tgt := 45) E.1 E.2.1 dX9_laterWord_37 (by decide)) (fun hf => ?_) (fun hf => ?_)
      · refine lv_aload_n E.1 E.2.1 dX9_laterWord_45 rfl (lv_at hl 0 rfl) ?_
        refine x_ldcwS hG E 21 (byt := lb21) rfl dX9_laterWord_46 (fun aK7 aV7 g7 => ?_)
        refine x_callp E h hl 0 hf (fun r0 hr => c_X9_says l D cy s00 _ hG g7 (by decide) S  r0 hr) m_X9_says rfl rfl kw1333 rfl rfl (Nat.le_of_ble_eq_true rfl) ⟨by decide, by decide⟩ ⟨Nat.zero_le _, Nat.zero_le _⟩ dX9_laterWord_49 (fun v8 H locs hf h => ?_)
        refine x_br hf (lv_if_eq (tgt := 60) E.1 E.2.1 dX9_laterWord_52 (by decide)) (fun hf => ?_) (fun hf => ?_)
        · refine lv_aload_n E.1 E.2.1 dX9_laterWord_60 rfl (lv_at hl 0 rfl) ?_
          refine x_ldcwS hG E 22 (byt := lb22) rfl dX9_laterWord_61 (fun aK9 aV9 g9 => ?_)
          refine x_callp E h hl 0 hf (fun r0 hr => c_X9_says l D cy s00 _ hG g9 (by decide) S  r0 hr) m_X9_says rfl rfl kw1333 rfl rfl (Nat.le_of_ble_eq_true rfl) ⟨by decide, by decide⟩ ⟨Nat.zero_le _, Nat.zero_le _⟩ dX9_laterWord_64 (fun v10 H locs hf h => ?_)
          refine x_br hf (lv_if_eq (tgt := 75) E.1 E.2.1 dX9_laterWord_67 (by decide)) (fun hf => ?_) (fun hf => ?_)
          · refine lv_aload_n E.1 E.2.1 dX9_laterWord_75 rfl (lv_at hl 0 rfl) ?_
            refine x_ldcwS hG E 23 (byt := lb23) rfl dX9_laterWord_76 (fun aK11 aV11 g11 => ?_)
            refine x_callp E h hl 0 hf (fun r0 hr => c_X9_says l D cy s00 _ hG g11 (by decide) S  r0 hr) m_X9_says rfl rfl kw1333 rfl rfl (Nat.le_of_ble_eq_true rfl) ⟨by decide, by decide⟩ ⟨Nat.zero_le _, Nat.zero_le _⟩ dX9_laterWord_79 (fun v12 H locs hf h => ?_)
            refine x_br hf (lv_if_eq (tgt := 90) E.1 E.2.1 dX9_laterWord_82 (by decide)) (fun hf => ?_) (fun hf => ?_)
            · refine lv_aload_n E.1 E.2.1 dX9_laterWord_90 rfl (lv_at hl 0 rfl) ?_
              refine x_ldcwS hG E 24 (byt := lb24) rfl dX9_laterWord_91 (fun aK13 aV13 g13 => ?_)
              refine x_callp E h hl 0 hf (fun r0 hr => c_X9_says l D cy s00 _ hG g13 (by decide) S  r0 hr) m_X9_says rfl rfl kw1333 rfl rfl (Nat.le_of_ble_eq_true rfl) ⟨by decide, by decide⟩ ⟨Nat.zero_le _, Nat.zero_le _⟩ dX9_laterWord_94 (fun v14 H locs hf h => ?_)
              refine x_br hf (lv_if_eq (tgt := 105) E.1 E.2.1 dX9_laterWord_97 (by decide)) (fun hf => ?_) (fun hf => ?_)
              · refine lv_iconst (v := (-1)) E.1 E.2.1 dX9_laterWord_105 (by decide) ?_
                exact x_irp E h hf dX9_laterWord_106
              · refine lv_bipush (v := 12) E.1 E.2.1 dX9_laterWord_100 (by decide) ?_
                refine lv_goto (tgt := 106) E.1 E.2.1 dX9_laterWord_102 (by decide) ?_
                exact x_irp E h hf dX9_laterWord_106
            · refine lv_bipush (v := 11) E.1 E.2.1 dX9_laterWord_85 (by decide) ?_
              refine lv_goto (tgt := 106) E.1 E.2.1 dX9_laterWord_87 (by decide) ?_
              exact x_irp E h hf dX9_laterWord_106
          · refine lv_bipush (v := 10) E.1 E.2.1 dX9_laterWord_70 (by decide) ?_
            refine lv_goto (tgt := 106) E.1 E.2.1 dX9_laterWord_72 (by decide) ?_
            exact x_irp E h hf dX9_laterWord_106
        · refine lv_bipush (v := 9) E.1 E.2.1 dX9_laterWord_55 (by decide) ?_
          refine lv_goto (tgt := 106) E.1 E.2.1 dX9_laterWord_57 (by decide) ?_
          exact x_irp E h hf dX9_laterWord_106
      · refine lv_bipush (v := 8) E.1 E.2.1 dX9_laterWord_40 (by decide) ?_
        refine lv_goto (tgt := 106) E.1 E.2.1 dX9_laterWord_42 (by decide) ?_
        exact x_irp E h hf dX9_laterWord_106
    · refine lv_bipush (v := 7) E.1 E.2.1 dX9_laterWord_25 (by decide) ?_
      refine lv_goto (tgt := 106) E.1 E.2.1 dX9_laterWord_27 (by decide) ?_
      exact x_irp E h hf dX9_laterWord_106
  · refine lv_bipush (v := 6) E.1 E.2.1 dX9_laterWord_10 (by decide) ?_
    refine lv_goto (tgt := 106) E.1 E.2.1 dX9_laterWord_12 (by decide) ?_
    exact x_irp E h hf dX9_laterWord_106
set_option maxHeartbeats 4000000 in
set_option maxRecDepth 100000 in
theorem c_X9_wordAhead (l : Launch) (D : va_G) (cy : Nat → ClassId) (s00 : State) (ad : Nat → Nat) (hG : XG s00) (S : XS) (r9 : Int32) (hf : f_X9_wordAhead S = some r9) : XI l yX9_wordAhead cX9_wordAhead 1 (some .int) 6 D cy s00 shMod ad S [.ref (ad 0)] r9 S := by
  refine XI.of (by decide) [(0, .ref (ad 0))] rfl (Nat.le_of_ble_eq_true rfl) (fun p e s m args below meth c A ls E h hl => ?_)
  unfold f_X9_wordAhead at hf
  refine lv_aload_n E.1 E.2.1 dX9_wordAhead_0 rfl (lv_at hl 0 rfl) ?_
  refine x_ldcwS hG E 12 (byt := lb12) rfl dX9_wordAhead_1 (fun aK1 aV1 g1 => ?_)
  refine x_callp E h hl 0 hf (fun r0 hr => c_X9_says l D cy s00 _ hG g1 (by decide) S  r0 hr) m_X9_says rfl rfl kw1333 rfl rfl (Nat.le_of_ble_eq_true rfl) ⟨by decide, by decide⟩ ⟨Nat.zero_le _, Nat.zero_le _⟩ dX9_wordAhead_4 (fun v2 H locs hf h => ?_)
  refine x_br hf (lv_if_eq (tgt := 14) E.1 E.2.1 dX9_wordAhead_7 (by decide)) (fun hf => ?_) (fun hf => ?_)
  · refine lv_aload_n E.1 E.2.1 dX9_wordAhead_14 rfl (lv_at hl 0 rfl) ?_
    refine x_ldcwS hG E 13 (byt := lb13) rfl dX9_wordAhead_15 (fun aK3 aV3 g3 => ?_)
    refine x_callp E h hl 0 hf (fun r0 hr => c_X9_says l D cy s00 _ hG g3 (by decide) S  r0 hr) m_X9_says rfl rfl kw1333 rfl rfl (Nat.le_of_ble_eq_true rfl) ⟨by decide, by decide⟩ ⟨Nat.zero_le _, Nat.zero_le _⟩ dX9_wordAhead_18 (fun v4 H locs hf h => ?_)
    refine x_br hf (lv_if_eq (tgt := 28) E.1 E.2.1 dX9_wordAhead_21 (by decide)) (fun hf => ?_) (fun hf => ?_)
    · refine lv_aload_n E.1 E.2.1 dX9_wordAhead_28 rfl (lv_at hl 0 rfl) ?_
      refine x_ldcwS hG E 14 (byt := lb14) rfl dX9_wordAhead_29 (fun aK5 aV5 g5 => ?_)
      refine x_callp E h hl 0 hf (fun r0 hr => c_X9_says l D cy s00 _ hG g5 (by decide) S  r0 hr) m_X9_says rfl rfl kw1333 rfl rfl (Nat.le_of_ble_eq_true rfl) ⟨by decide, by decide⟩ ⟨Nat.zero_le _, Nat.zero_le _⟩ dX9_wordAhead_32 (fun v6 H locs hf h => ?_)
      refine x_br hf (lv_if_eq (tgt := 42) E.1 E.2.1 dX9_wordAhead_35 (by decide)) (fun hf => ?_) (fun hf => ?_)
      · refine lv_aload_n E.1 E.2.1 dX9_wordAhead_42 rfl (lv_at hl 0 rfl) ?_
        refine x_ldcwS hG E 15 (byt := lb15) rfl dX9_wordAhead_43 (fun aK7 aV7 g7 => ?_)
        refine x_callp E h hl 0 hf (fun r0 hr => c_X9_says l D cy s00 _ hG g7 (by decide) S  r0 hr) m_X9_says rfl rfl kw1333 rfl rfl (Nat.le_of_ble_eq_true rfl) ⟨by decide, by decide⟩ ⟨Nat.zero_le _, Nat.zero_le _⟩ dX9_wordAhead_46 (fun v8 H locs hf h => ?_)
        refine x_br hf (lv_if_eq (tgt := 56) E.1 E.2.1 dX9_wordAhead_49 (by decide)) (fun hf => ?_) (fun hf => ?_)
        · refine lv_aload_n E.1 E.2.1 dX9_wordAhead_56 rfl (lv_at hl 0 rfl) ?_
          refine x_ldcwS hG E 16 (byt := lb16) rfl dX9_wordAhead_57 (fun aK9 aV9 g9 => ?_)
          refine x_callp E h hl 0 hf (fun r0 hr => c_X9_says l D cy s00 _ hG g9 (by decide) S  r0 hr) m_X9_says rfl rfl kw1333 rfl rfl (Nat.le_of_ble_eq_true rfl) ⟨by decide, by decide⟩ ⟨Nat.zero_le _, Nat.zero_le _⟩ dX9_wordAhead_60 (fun v10 H locs hf h => ?_)
          refine x_br hf (lv_if_eq (tgt := 70) E.1 E.2.1 dX9_wordAhead_63 (by decide)) (fun hf => ?_) (fun hf => ?_)
          · refine lv_aload_n E.1 E.2.1 dX9_wordAhead_70 rfl (lv_at hl 0 rfl) ?_
            refine x_ldcwS hG E 17 (byt := lb17) rfl dX9_wordAhead_71 (fun aK11 aV11 g11 => ?_)
            refine x_callp E h hl 0 hf (fun r0 hr => c_X9_says l D cy s00 _ hG g11 (by decide) S  r0 hr) m_X9_says rfl rfl kw1333 rfl rfl (Nat.le_of_ble_eq_true rfl) ⟨by decide, by decide⟩ ⟨Nat.zero_le _, Nat.zero_le _⟩ dX9_wordAhead_74 (fun v12 H locs hf h => ?_)
            refine x_br hf (lv_if_eq (tgt := 84) E.1 E.2.1 dX9_wordAhead_77 (by decide)) (fun hf => ?_) (fun hf => ?_)
            · refine lv_aload_n E.1 E.2.1 dX9_wordAhead_84 rfl (lv_at hl 0 rfl) ?_
              refine x_callp E h hl 0 hf (fun r0 hr => c_X9_laterWord l D cy s00 _ hG S  r0 hr) m_X9_laterWord rfl rfl kw1359 rfl rfl (Nat.le_of_ble_eq_true rfl) ⟨by decide, by decide⟩ ⟨Nat.zero_le _, Nat.zero_le _⟩ dX9_wordAhead_85 (fun v13 H locs hf h => ?_)
              exact x_irp E h hf dX9_wordAhead_88
            · refine lv_iconst (v := 5) E.1 E.2.1 dX9_wordAhead_80 (by decide) ?_
              refine lv_goto (tgt := 88) E.1 E.2.1 dX9_wordAhead_81 (by decide) ?_
              exact x_irp E h hf dX9_wordAhead_88
          · refine lv_iconst (v := 4) E.1 E.2.1 dX9_wordAhead_66 (by decide) ?_
            refine lv_goto (tgt := 88) E.1 E.2.1 dX9_wordAhead_67 (by decide) ?_
            exact x_irp E h hf dX9_wordAhead_88
        · refine lv_iconst (v := 3) E.1 E.2.1 dX9_wordAhead_52 (by decide) ?_
          refine lv_goto (tgt := 88) E.1 E.2.1 dX9_wordAhead_53 (by decide) ?_
          exact x_irp E h hf dX9_wordAhead_88
      · refine lv_iconst (v := 2) E.1 E.2.1 dX9_wordAhead_38 (by decide) ?_
        refine lv_goto (tgt := 88) E.1 E.2.1 dX9_wordAhead_39 (by decide) ?_
        exact x_irp E h hf dX9_wordAhead_88
    · refine lv_iconst (v := 1) E.1 E.2.1 dX9_wordAhead_24 (by decide) ?_
      refine lv_goto (tgt := 88) E.1 E.2.1 dX9_wordAhead_25 (by decide) ?_
      exact x_irp E h hf dX9_wordAhead_88
  · refine lv_iconst (v := 0) E.1 E.2.1 dX9_wordAhead_10 (by decide) ?_
    refine lv_goto (tgt := 88) E.1 E.2.1 dX9_wordAhead_11 (by decide) ?_
    exact x_irp E h hf dX9_wordAhead_88
set_option maxHeartbeats 4000000 in
set_option maxRecDepth 100000 in
theorem c_X9_in (l : Launch) (D : va_G) (cy : Nat → ClassId) (s00 : State) (ad : Nat → Nat) (S : XS) (p0 p1 p2 : Int32) (r9 : Int32) (hf : f_X9_in p0 p1 p2 = some r9) : XI l yX9_in cX9_in 3 (some .boolean) 0 D cy s00 [] ad S [.int p0, .int p1, .int p2] r9 S := by
  refine XI.of (by decide) [(0, .int p0), (1, .int p1), (2, .int p2)] rfl (Nat.le_of_ble_eq_true rfl) (fun p e s m args below meth c A ls E h hl => ?_)
  unfold f_X9_in at hf
  refine lv_iload_n E.1 E.2.1 dX9_in_0 rfl (lv_at hl 0 rfl) ?_
  refine lv_iload_n E.1 E.2.1 dX9_in_1 rfl (lv_at hl 1 rfl) ?_
  refine x_br hf (lv_icmp_lt (tgt := 14) E.1 E.2.1 dX9_in_2 (by decide)) (fun hf => ?_) (fun hf => ?_)
  · refine lv_iconst (v := 0) E.1 E.2.1 dX9_in_14 (by decide) ?_
    exact x_zrc E h (by decide) hf dX9_in_15
  · refine lv_iload_n E.1 E.2.1 dX9_in_5 rfl (lv_at hl 0 rfl) ?_
    refine lv_iload_n E.1 E.2.1 dX9_in_6 rfl (lv_at hl 2 rfl) ?_
    refine x_br hf (lv_icmp_gt (tgt := 14) E.1 E.2.1 dX9_in_7 (by decide)) (fun hf => ?_) (fun hf => ?_)
    · refine lv_iconst (v := 0) E.1 E.2.1 dX9_in_14 (by decide) ?_
      exact x_zrc E h (by decide) hf dX9_in_15
    · refine lv_iconst (v := 1) E.1 E.2.1 dX9_in_10 (by decide) ?_
      refine lv_goto (tgt := 15) E.1 E.2.1 dX9_in_11 (by decide) ?_
      exact x_zrc E h (by decide) hf dX9_in_15
set_option maxHeartbeats 4000000 in
set_option maxRecDepth 100000 in
theorem c_X9_number (l : Launch) (D : va_G) (cy : Nat → ClassId) (s00 : State) (ad : Nat → Nat) (S : XS) (p0 p1 p2 : Int32) (r9 : Int32) (S9 : XS) (hf : f_X9_number S p0 p1 p2 = some (r9, S9)) : XI l yX9_number cX9_number 4 (some .boolean) 2 D cy s00 shMod ad S [.ref (ad 0), .int p0, .int p1, .int p2] r9 S9 := by
  refine XI.of (by decide) [(0, .ref (ad 0)), (1, .int p0), (2, .int p1), (3, .int p2)] rfl (Nat.le_of_ble_eq_true rfl) (fun p e s m args below meth c A ls E h hl => ?_)
  unfold f_X9_number at hf
  refine lv_aload_n E.1 E.2.1 dX9_number_0 rfl (lv_at hl 0 rfl) ?_
  refine lv_iconst (v := 3) E.1 E.2.1 dX9_number_1 (by decide) ?_
  refine x_calli E h hl 0 hf (fun r0 Sq0 hr => c_X9_is l D cy s00 _ S 3 r0 Sq0 hr) m_X9_is rfl rfl kw1341 rfl rfl (Nat.le_of_ble_eq_true rfl) ⟨by decide, by decide⟩ ⟨Nat.zero_le _, Nat.zero_le _⟩ dX9_number_2 (fun v1 S2 H locs hf h => ?_)
  refine x_brn hf (lv_if_ne (tgt := 10) E.1 E.2.1 dX9_number_5 (by decide)) (fun hf => ?_) (fun hf => ?_)
  · refine lv_aload_n E.1 E.2.1 dX9_number_10 rfl (lv_at hl 0 rfl) ?_
    refine x_get E h 0 20 rfl rfl rfl (by decide) xinX9 kw1630 dX9_number_11 ?_
    refine lv_iload_n E.1 E.2.1 dX9_number_14 rfl (lv_at hl 2 rfl) ?_
    refine lv_iload_n E.1 E.2.1 dX9_number_15 rfl (lv_at hl 3 rfl) ?_
    refine x_callsp E h hl hf (fun r0 hr => c_X9_in l D cy s00 _ _ (S2 0 20) p1 p2 r0 hr) m_X9_in kw1378 rfl rfl (Nat.le_of_ble_eq_true rfl) ⟨by decide, by decide⟩ ⟨Nat.zero_le _, Nat.zero_le _⟩ dX9_number_16 (fun v3 H locs hf h => ?_)
    refine x_brn hf (lv_if_ne (tgt := 28) E.1 E.2.1 dX9_number_19 (by decide)) (fun hf => ?_) (fun hf => ?_)
    · refine lv_aload_n E.1 E.2.1 dX9_number_28 rfl (lv_at hl 0 rfl) ?_
      refine x_getr E h 0 22 10 rfl rfl rfl (by decide) xinX9 kw1632 dX9_number_29 ?_
      refine lv_iload_n E.1 E.2.1 dX9_number_32 rfl (lv_at hl 1 rfl) ?_
      refine lv_aload_n E.1 E.2.1 dX9_number_33 rfl (lv_at hl 0 rfl) ?_
      refine x_get E h 0 20 rfl rfl rfl (by decide) xinX9 kw1630 dX9_number_34 ?_
      refine x_iast E h 10 hf rfl dX9_number_37 (fun S4 H locs hf h => ?_)
      refine lv_aload_n E.1 E.2.1 dX9_number_38 rfl (lv_at hl 0 rfl) ?_
      refine x_callv E h hl 0 hf (fun r0 hr => c_X9_next l D cy s00 _ S4  r0 hr) m_X9_next rfl rfl kw1321 rfl rfl (Nat.le_of_ble_eq_true rfl) ⟨by decide, by decide⟩ ⟨Nat.zero_le _, Nat.zero_le _⟩ dX9_number_39 (fun S6 H locs hf h => ?_)
      refine lv_iconst (v := 1) E.1 E.2.1 dX9_number_42 (by decide) ?_
      exact x_zic E h (by decide) hf dX9_number_43
    · refine lv_aload_n E.1 E.2.1 dX9_number_22 rfl (lv_at hl 0 rfl) ?_
      refine lv_iconst (v := 2) E.1 E.2.1 dX9_number_23 (by decide) ?_
      refine x_calli E h hl 0 hf (fun r0 Sq0 hr => c_X9_fail l D cy s00 _ S2 2 r0 Sq0 hr) m_X9_fail rfl rfl kw1337 rfl rfl (Nat.le_of_ble_eq_true rfl) ⟨by decide, by decide⟩ ⟨Nat.zero_le _, Nat.zero_le _⟩ dX9_number_24 (fun v7 S8 H locs hf h => ?_)
      exact x_zret E h hf dX9_number_27
  · refine lv_iconst (v := 0) E.1 E.2.1 dX9_number_8 (by decide) ?_
    exact x_zic E h (by decide) hf dX9_number_9
set_option maxHeartbeats 4000000 in
set_option maxRecDepth 100000 in
theorem c_X9_stops (l : Launch) (D : va_G) (cy : Nat → ClassId) (s00 : State) (ad : Nat → Nat) (S : XS) (p0 : Int32) (r9 : Int32) (S9 : XS) (hf : f_X9_stops S p0 = some (r9, S9)) : XI l yX9_stops cX9_stops 2 (some .boolean) 2 D cy s00 shMod ad S [.ref (ad 0), .int p0] r9 S9 := by
  refine XI.of (by decide) [(0, .ref (ad 0)), (1, .int p0)] rfl (Nat.le_of_ble_eq_true rfl) (fun p e s m args below meth c A ls E h hl => ?_)
  unfold f_X9_stops at hf
  refine lv_aload_n E.1 E.2.1 dX9_stops_0 rfl (lv_at hl 0 rfl) ?_
  refine lv_iconst (v := 1) E.1 E.2.1 dX9_stops_1 (by decide) ?_
  refine x_calli E h hl 0 hf (fun r0 Sq0 hr => c_X9_is l D cy s00 _ S 1 r0 Sq0 hr) m_X9_is rfl rfl kw1341 rfl rfl (Nat.le_of_ble_eq_true rfl) ⟨by decide, by decide⟩ ⟨Nat.zero_le _, Nat.zero_le _⟩ dX9_stops_2 (fun v1 S2 H locs hf h => ?_)
  refine x_br hf (lv_if_eq (tgt := 24) E.1 E.2.1 dX9_stops_5 (by decide)) (fun hf => ?_) (fun hf => ?_)
  · refine lv_iconst (v := 0) E.1 E.2.1 dX9_stops_24 (by decide) ?_
    exact x_zic E h (by decide) hf dX9_stops_25
  · refine lv_iload_n E.1 E.2.1 dX9_stops_8 rfl (lv_at hl 1 rfl) ?_
    refine x_brn hf (lv_if_ne (tgt := 20) E.1 E.2.1 dX9_stops_9 (by decide)) (fun hf => ?_) (fun hf => ?_)
    · refine lv_iconst (v := 1) E.1 E.2.1 dX9_stops_20 (by decide) ?_
      refine lv_goto (tgt := 25) E.1 E.2.1 dX9_stops_21 (by decide) ?_
      exact x_zic E h (by decide) hf dX9_stops_25
    · refine lv_aload_n E.1 E.2.1 dX9_stops_12 rfl (lv_at hl 0 rfl) ?_
      refine lv_iconst (v := 3) E.1 E.2.1 dX9_stops_13 (by decide) ?_
      refine x_calli E h hl 0 hf (fun r0 Sq0 hr => c_X9_fail l D cy s00 _ S2 3 r0 Sq0 hr) m_X9_fail rfl rfl kw1337 rfl rfl (Nat.le_of_ble_eq_true rfl) ⟨by decide, by decide⟩ ⟨Nat.zero_le _, Nat.zero_le _⟩ dX9_stops_14 (fun v3 S4 H locs hf h => ?_)
      refine x_br hf (lv_if_eq (tgt := 24) E.1 E.2.1 dX9_stops_17 (by decide)) (fun hf => ?_) (fun hf => ?_)
      · refine lv_iconst (v := 0) E.1 E.2.1 dX9_stops_24 (by decide) ?_
        exact x_zic E h (by decide) hf dX9_stops_25
      · refine lv_iconst (v := 1) E.1 E.2.1 dX9_stops_20 (by decide) ?_
        refine lv_goto (tgt := 25) E.1 E.2.1 dX9_stops_21 (by decide) ?_
        exact x_zic E h (by decide) hf dX9_stops_25
set_option maxHeartbeats 4000000 in
set_option maxRecDepth 100000 in
theorem c_X9_builds (l : Launch) (D : va_G) (cy : Nat → ClassId) (s00 : State) (ad : Nat → Nat) (S : XS) (p0 : Int32) (r9 : Int32) (S9 : XS) (hf : f_X9_builds S p0 = some (r9, S9)) : XI l yX9_builds cX9_builds 2 (some .int) 0 D cy s00 shMod ad S [.ref (ad 0), .int p0] r9 S9 := by
  refine XI.of (by decide) [(0, .ref (ad 0)), (1, .int p0)] rfl (Nat.le_of_ble_eq_true rfl) (fun p e s m args below meth c A ls E h hl => ?_)
  unfold f_X9_builds at hf
  refine lv_aload_n E.1 E.2.1 dX9_builds_0 rfl (lv_at hl 0 rfl) ?_
  refine x_getr E h 0 0 1 rfl rfl rfl (by decide) xinX9 kw1610 dX9_builds_1 ?_
  refine lv_bipush (v := 10) E.1 E.2.1 dX9_builds_4 (by decide) ?_
  refine lv_aload_n E.1 E.2.1 dX9_builds_6 rfl (lv_at hl 0 rfl) ?_
  refine x_getr E h 0 0 1 rfl rfl rfl (by decide) xinX9 kw1610 dX9_builds_7 ?_
  refine lv_iconst (v := 0) E.1 E.2.1 dX9_builds_10 (by decide) ?_
  refine x_iald E h 1 hf rfl dX9_builds_11 (fun v1 hf => ?_)
  refine lv_iadd E.1 E.2.1 dX9_builds_12 ?_
  refine lv_iload_n E.1 E.2.1 dX9_builds_13 rfl (lv_at hl 1 rfl) ?_
  refine x_iast E h 1 hf rfl dX9_builds_14 (fun S2 H locs hf h => ?_)
  refine lv_aload_n E.1 E.2.1 dX9_builds_15 rfl (lv_at hl 0 rfl) ?_
  refine x_getr E h 0 0 1 rfl rfl rfl (by decide) xinX9 kw1610 dX9_builds_16 ?_
  refine lv_bipush (v := 20) E.1 E.2.1 dX9_builds_19 (by decide) ?_
  refine lv_aload_n E.1 E.2.1 dX9_builds_21 rfl (lv_at hl 0 rfl) ?_
  refine x_getr E h 0 0 1 rfl rfl rfl (by decide) xinX9 kw1610 dX9_builds_22 ?_
  refine lv_iconst (v := 0) E.1 E.2.1 dX9_builds_25 (by decide) ?_
  refine x_iald E h 1 hf rfl dX9_builds_26 (fun v4 hf => ?_)
  refine lv_iadd E.1 E.2.1 dX9_builds_27 ?_
  refine lv_iconst (v := (-1)) E.1 E.2.1 dX9_builds_28 (by decide) ?_
  refine x_iast E h 1 hf rfl dX9_builds_29 (fun S5 H locs hf h => ?_)
  refine lv_aload_n E.1 E.2.1 dX9_builds_30 rfl (lv_at hl 0 rfl) ?_
  refine x_getr E h 0 0 1 rfl rfl rfl (by decide) xinX9 kw1610 dX9_builds_31 ?_
  refine lv_iconst (v := 0) E.1 E.2.1 dX9_builds_34 (by decide) ?_
  refine lv_dup2_11 E.1 E.2.1 dX9_builds_35 rfl rfl ?_
  refine x_iald E h 1 hf rfl dX9_builds_36 (fun v7 hf => ?_)
  refine lv_iconst (v := 1) E.1 E.2.1 dX9_builds_37 (by decide) ?_
  refine lv_iadd E.1 E.2.1 dX9_builds_38 ?_
  refine x_iast E h 1 hf rfl dX9_builds_39 (fun S8 H locs hf h => ?_)
  refine lv_aload_n E.1 E.2.1 dX9_builds_40 rfl (lv_at hl 0 rfl) ?_
  refine x_getr E h 0 0 1 rfl rfl rfl (by decide) xinX9 kw1610 dX9_builds_41 ?_
  refine lv_iconst (v := 0) E.1 E.2.1 dX9_builds_44 (by decide) ?_
  refine x_iald E h 1 hf rfl dX9_builds_45 (fun v10 hf => ?_)
  refine lv_iconst (v := 1) E.1 E.2.1 dX9_builds_46 (by decide) ?_
  refine lv_isub E.1 E.2.1 dX9_builds_47 ?_
  exact x_iret E h hf dX9_builds_48
set_option maxHeartbeats 4000000 in
set_option maxRecDepth 100000 in
theorem c_X9_readsChimney (l : Launch) (D : va_G) (cy : Nat → ClassId) (s00 : State) (ad : Nat → Nat) (S : XS) (r9 : Int32) (S9 : XS) (hf : f_X9_readsChimney S = some (r9, S9)) : XI l yX9_readsChimney cX9_readsChimney 1 (some .boolean) 3 D cy s00 shMod ad S [.ref (ad 0)] r9 S9 := by
  refine XI.of (by decide) [(0, .ref (ad 0))] rfl (Nat.le_of_ble_eq_true rfl) (fun p e s m args below meth c A ls E h hl => ?_)
  unfold f_X9_readsChimney at hf
  refine lv_aload_n E.1 E.2.1 dX9_readsChimney_0 rfl (lv_at hl 0 rfl) ?_
  refine lv_iconst (v := 0) E.1 E.2.1 dX9_readsChimney_1 (by decide) ?_
  refine lv_iconst (v := 0) E.1 E.2.1 dX9_readsChimney_2 (by decide) ?_
  refine lv_bipush (v := 9) E.1 E.2.1 dX9_readsChimney_3 (by decide) ?_
  refine x_calli E h hl 0 hf (fun r0 Sq0 hr => c_X9_number l D cy s00 _ S 0 0 9 r0 Sq0 hr) m_X9_number rfl rfl kw1374 rfl rfl (Nat.le_of_ble_eq_true rfl) ⟨by decide, by decide⟩ ⟨Nat.zero_le _, Nat.zero_le _⟩ dX9_readsChimney_5 (fun v1 S2 H locs hf h => ?_)
  refine x_br hf (lv_if_eq (tgt := 34) E.1 E.2.1 dX9_readsChimney_8 (by decide)) (fun hf => ?_) (fun hf => ?_)
  · refine lv_iconst (v := 0) E.1 E.2.1 dX9_readsChimney_34 (by decide) ?_
    exact x_zic E h (by decide) hf dX9_readsChimney_35
  · refine lv_aload_n E.1 E.2.1 dX9_readsChimney_11 rfl (lv_at hl 0 rfl) ?_
    refine lv_aload_n E.1 E.2.1 dX9_readsChimney_12 rfl (lv_at hl 0 rfl) ?_
    refine x_getr E h 0 0 1 rfl rfl rfl (by decide) xinX9 kw1610 dX9_readsChimney_13 ?_
    refine lv_iconst (v := 0) E.1 E.2.1 dX9_readsChimney_16 (by decide) ?_
    refine x_iald E h 1 hf rfl dX9_readsChimney_17 (fun v3 hf => ?_)
    refine lv_bipush (v := 10) E.1 E.2.1 dX9_readsChimney_18 (by decide) ?_
    refine x_br hf (lv_icmp_ge (tgt := 27) E.1 E.2.1 dX9_readsChimney_20 (by decide)) (fun hf => ?_) (fun hf => ?_)
    · refine lv_iconst (v := 0) E.1 E.2.1 dX9_readsChimney_27 (by decide) ?_
      refine x_calli E h hl 0 hf (fun r0 Sq0 hr => c_X9_stops l D cy s00 _ S2 0 r0 Sq0 hr) m_X9_stops rfl rfl kw1389 rfl rfl (Nat.le_of_ble_eq_true rfl) ⟨by decide, by decide⟩ ⟨Nat.zero_le _, Nat.zero_le _⟩ dX9_readsChimney_28 (fun v4 S5 H locs hf h => ?_)
      refine x_brn hf (lv_if_ne (tgt := 36) E.1 E.2.1 dX9_readsChimney_31 (by decide)) (fun hf => ?_) (fun hf => ?_)
      · refine lv_aload_n E.1 E.2.1 dX9_readsChimney_36 rfl (lv_at hl 0 rfl) ?_
        refine lv_aload_n E.1 E.2.1 dX9_readsChimney_37 rfl (lv_at hl 0 rfl) ?_
        refine x_getr E h 0 22 10 rfl rfl rfl (by decide) xinX9 kw1632 dX9_readsChimney_38 ?_
        refine lv_iconst (v := 0) E.1 E.2.1 dX9_readsChimney_41 (by decide) ?_
        refine x_iald E h 10 hf rfl dX9_readsChimney_42 (fun v6 hf => ?_)
        refine x_calli E h hl 0 hf (fun r0 Sq0 hr => c_X9_builds l D cy s00 _ S5 v6 r0 Sq0 hr) m_X9_builds rfl rfl kw1393 rfl rfl (Nat.le_of_ble_eq_true rfl) ⟨by decide, by decide⟩ ⟨Nat.zero_le _, Nat.zero_le _⟩ dX9_readsChimney_43 (fun v7 S8 H locs hf h => ?_)
        refine lv_pop E.1 E.2.1 dX9_readsChimney_46 rfl ?_
        refine lv_iconst (v := 1) E.1 E.2.1 dX9_readsChimney_47 (by decide) ?_
        exact x_zic E h (by decide) hf dX9_readsChimney_48
      · refine lv_iconst (v := 0) E.1 E.2.1 dX9_readsChimney_34 (by decide) ?_
        exact x_zic E h (by decide) hf dX9_readsChimney_35
    · refine lv_iconst (v := 1) E.1 E.2.1 dX9_readsChimney_23 (by decide) ?_
      refine lv_goto (tgt := 28) E.1 E.2.1 dX9_readsChimney_24 (by decide) ?_
      refine x_calli E h hl 0 hf (fun r0 Sq0 hr => c_X9_stops l D cy s00 _ S2 1 r0 Sq0 hr) m_X9_stops rfl rfl kw1389 rfl rfl (Nat.le_of_ble_eq_true rfl) ⟨by decide, by decide⟩ ⟨Nat.zero_le _, Nat.zero_le _⟩ dX9_readsChimney_28 (fun v9 S10 H locs hf h => ?_)
      refine x_brn hf (lv_if_ne (tgt := 36) E.1 E.2.1 dX9_readsChimney_31 (by decide)) (fun hf => ?_) (fun hf => ?_)
      · refine lv_aload_n E.1 E.2.1 dX9_readsChimney_36 rfl (lv_at hl 0 rfl) ?_
        refine lv_aload_n E.1 E.2.1 dX9_readsChimney_37 rfl (lv_at hl 0 rfl) ?_
        refine x_getr E h 0 22 10 rfl rfl rfl (by decide) xinX9 kw1632 dX9_readsChimney_38 ?_
        refine lv_iconst (v := 0) E.1 E.2.1 dX9_readsChimney_41 (by decide) ?_
        refine x_iald E h 10 hf rfl dX9_readsChimney_42 (fun v11 hf => ?_)
        refine x_calli E h hl 0 hf (fun r0 Sq0 hr => c_X9_builds l D cy s00 _ S10 v11 r0 Sq0 hr) m_X9_builds rfl rfl kw1393 rfl rfl (Nat.le_of_ble_eq_true rfl) ⟨by decide, by decide⟩ ⟨Nat.zero_le _, Nat.zero_le _⟩ dX9_readsChimney_43 (fun v12 S13 H locs hf h => ?_)
        refine lv_pop E.1 E.2.1 dX9_readsChimney_46 rfl ?_
        refine lv_iconst (v := 1) E.1 E.2.1 dX9_readsChimney_47 (by decide) ?_
        exact x_zic E h (by decide) hf dX9_readsChimney_48
      · refine lv_iconst (v := 0) E.1 E.2.1 dX9_readsChimney_34 (by decide) ?_
        exact x_zic E h (by decide) hf dX9_readsChimney_35
set_option maxHeartbeats 4000000 in
set_option maxRecDepth 100000 in
theorem c_X9_chimneyAt (l : Launch) (D : va_G) (cy : Nat → ClassId) (s00 : State) (ad : Nat → Nat) (S : XS) (p0 : Int32) (r9 : Int32) (S9 : XS) (hf : f_X9_chimneyAt S p0 = some (r9, S9)) : XI l yX9_chimneyAt cX9_chimneyAt 2 (some .boolean) 3 D cy s00 shMod ad S [.ref (ad 0), .int p0] r9 S9 := by
  refine XI.of (by decide) [(0, .ref (ad 0)), (1, .int p0)] rfl (Nat.le_of_ble_eq_true rfl) (fun p e s m args below meth c A ls E h hl => ?_)
  unfold f_X9_chimneyAt at hf
  refine lv_aload_n E.1 E.2.1 dX9_chimneyAt_0 rfl (lv_at hl 0 rfl) ?_
  refine lv_iload_n E.1 E.2.1 dX9_chimneyAt_1 rfl (lv_at hl 1 rfl) ?_
  refine lv_iconst (v := 0) E.1 E.2.1 dX9_chimneyAt_2 (by decide) ?_
  refine lv_aload_n E.1 E.2.1 dX9_chimneyAt_3 rfl (lv_at hl 0 rfl) ?_
  refine x_getr E h 0 0 1 rfl rfl rfl (by decide) xinX9 kw1610 dX9_chimneyAt_4 ?_
  refine lv_iconst (v := 0) E.1 E.2.1 dX9_chimneyAt_7 (by decide) ?_
  refine x_iald E h 1 hf rfl dX9_chimneyAt_8 (fun v1 hf => ?_)
  refine lv_iconst (v := 1) E.1 E.2.1 dX9_chimneyAt_9 (by decide) ?_
  refine lv_isub E.1 E.2.1 dX9_chimneyAt_10 ?_
  refine x_calli E h hl 0 hf (fun r0 Sq0 hr => c_X9_number l D cy s00 _ S p0 0 (v1 - 1) r0 Sq0 hr) m_X9_number rfl rfl kw1374 rfl rfl (Nat.le_of_ble_eq_true rfl) ⟨by decide, by decide⟩ ⟨Nat.zero_le _, Nat.zero_le _⟩ dX9_chimneyAt_11 (fun v2 S3 H locs hf h => ?_)
  exact x_zret E h hf dX9_chimneyAt_14
set_option maxHeartbeats 4000000 in
set_option maxRecDepth 100000 in
theorem c_X9_another (l : Launch) (D : va_G) (cy : Nat → ClassId) (s00 : State) (ad : Nat → Nat) (S : XS) (p0 : Int32) (r9 : Int32) (S9 : XS) (hf : f_X9_another S p0 = some (r9, S9)) : XI l yX9_another cX9_another 2 (some .boolean) 3 D cy s00 shMod ad S [.ref (ad 0), .int p0] r9 S9 := by
  refine XI.of (by decide) [(0, .ref (ad 0)), (1, .int p0)] rfl (Nat.le_of_ble_eq_true rfl) (fun p e s m args below meth c A ls E h hl => ?_)
  unfold f_X9_another at hf
  refine lv_aload_n E.1 E.2.1 dX9_another_0 rfl (lv_at hl 0 rfl) ?_
  refine x_get E h 0 17 rfl rfl rfl (by decide) xinX9 kw1627 dX9_another_1 ?_
  refine lv_iconst (v := 3) E.1 E.2.1 dX9_another_4 (by decide) ?_
  refine x_brn hf (lv_icmp_ne (tgt := 29) E.1 E.2.1 dX9_another_5 (by decide)) (fun hf => ?_) (fun hf => ?_)
  · refine lv_aload_n E.1 E.2.1 dX9_another_29 rfl (lv_at hl 0 rfl) ?_
    refine lv_iconst (v := 1) E.1 E.2.1 dX9_another_30 (by decide) ?_
    refine lv_iconst (v := 0) E.1 E.2.1 dX9_another_31 (by decide) ?_
    refine lv_iload_n E.1 E.2.1 dX9_another_32 rfl (lv_at hl 1 rfl) ?_
    refine x_calli E h hl 0 hf (fun r0 Sq0 hr => c_X9_number l D cy s00 _ S 1 0 p0 r0 Sq0 hr) m_X9_number rfl rfl kw1374 rfl rfl (Nat.le_of_ble_eq_true rfl) ⟨by decide, by decide⟩ ⟨Nat.zero_le _, Nat.zero_le _⟩ dX9_another_33 (fun v1 S2 H locs hf h => ?_)
    exact x_zret E h hf dX9_another_36
  · refine lv_aload_n E.1 E.2.1 dX9_another_8 rfl (lv_at hl 0 rfl) ?_
    refine x_get E h 0 20 rfl rfl rfl (by decide) xinX9 kw1630 dX9_another_9 ?_
    refine lv_aload_n E.1 E.2.1 dX9_another_12 rfl (lv_at hl 0 rfl) ?_
    refine x_getr E h 0 22 10 rfl rfl rfl (by decide) xinX9 kw1632 dX9_another_13 ?_
    refine lv_iconst (v := 0) E.1 E.2.1 dX9_another_16 (by decide) ?_
    refine x_iald E h 10 hf rfl dX9_another_17 (fun v3 hf => ?_)
    refine x_brn hf (lv_icmp_ne (tgt := 29) E.1 E.2.1 dX9_another_18 (by decide)) (fun hf => ?_) (fun hf => ?_)
    · refine lv_aload_n E.1 E.2.1 dX9_another_29 rfl (lv_at hl 0 rfl) ?_
      refine lv_iconst (v := 1) E.1 E.2.1 dX9_another_30 (by decide) ?_
      refine lv_iconst (v := 0) E.1 E.2.1 dX9_another_31 (by decide) ?_
      refine lv_iload_n E.1 E.2.1 dX9_another_32 rfl (lv_at hl 1 rfl) ?_
      refine x_calli E h hl 0 hf (fun r0 Sq0 hr => c_X9_number l D cy s00 _ S 1 0 p0 r0 Sq0 hr) m_X9_number rfl rfl kw1374 rfl rfl (Nat.le_of_ble_eq_true rfl) ⟨by decide, by decide⟩ ⟨Nat.zero_le _, Nat.zero_le _⟩ dX9_another_33 (fun v4 S5 H locs hf h => ?_)
      exact x_zret E h hf dX9_another_36
    · refine lv_aload_n E.1 E.2.1 dX9_another_21 rfl (lv_at hl 0 rfl) ?_
      refine lv_iconst (v := 2) E.1 E.2.1 dX9_another_22 (by decide) ?_
      refine x_calli E h hl 0 hf (fun r0 Sq0 hr => c_X9_fail l D cy s00 _ S 2 r0 Sq0 hr) m_X9_fail rfl rfl kw1337 rfl rfl (Nat.le_of_ble_eq_true rfl) ⟨by decide, by decide⟩ ⟨Nat.zero_le _, Nat.zero_le _⟩ dX9_another_23 (fun v6 S7 H locs hf h => ?_)
      refine lv_goto (tgt := 36) E.1 E.2.1 dX9_another_26 (by decide) ?_
      exact x_zret E h hf dX9_another_36
set_option maxHeartbeats 4000000 in
set_option maxRecDepth 100000 in
theorem c_X9_lays (l : Launch) (D : va_G) (cy : Nat → ClassId) (s00 : State) (ad : Nat → Nat) (S : XS) (p0 p1 p2 : Int32) (r9 : Int32) (S9 : XS) (hf : f_X9_lays S p0 p1 p2 = some (r9, S9)) : XI l yX9_lays cX9_lays 5 (some .int) 0 D cy s00 shMod ad S [.ref (ad 0), .int p0, .int p1, .int p2] r9 S9 := by
  refine XI.of (by decide) [(0, .ref (ad 0)), (1, .int p0), (2, .int p1), (3, .int p2)] rfl (Nat.le_of_ble_eq_true rfl) (fun p e s m args below meth c A ls E h hl => ?_)
  unfold f_X9_lays at hf
  refine lv_bipush (v := 30) E.1 E.2.1 dX9_lays_0 (by decide) ?_
  refine lv_iconst (v := 3) E.1 E.2.1 dX9_lays_2 (by decide) ?_
  refine lv_aload_n E.1 E.2.1 dX9_lays_3 rfl (lv_at hl 0 rfl) ?_
  refine x_getr E h 0 0 1 rfl rfl rfl (by decide) xinX9 kw1610 dX9_lays_4 ?_
  refine lv_iconst (v := 1) E.1 E.2.1 dX9_lays_7 (by decide) ?_
  refine x_iald E h 1 hf rfl dX9_lays_8 (fun v1 hf => ?_)
  refine lv_imul E.1 E.2.1 dX9_lays_9 ?_
  refine lv_iadd E.1 E.2.1 dX9_lays_10 ?_
  refine x_nm hf (fun v2 hf => ?_)
  refine lv_istore (lv' := [(4, .int v2), (0, .ref (ad 0)), (1, .int p0), (2, .int p1), (3, .int p2)]) E.1 E.2.1 dX9_lays_11 hl (by decide) rfl (fun ls hl => ?_)
  refine lv_aload_n E.1 E.2.1 dX9_lays_13 rfl (lv_at hl 1 rfl) ?_
  refine x_getr E h 0 0 1 rfl rfl rfl (by decide) xinX9 kw1610 dX9_lays_14 ?_
  refine lv_iload E.1 E.2.1 dX9_lays_17 (lv_at hl 0 rfl) ?_
  refine lv_iconst (v := 0) E.1 E.2.1 dX9_lays_19 (by decide) ?_
  refine lv_iadd E.1 E.2.1 dX9_lays_20 ?_
  refine lv_iload_n E.1 E.2.1 dX9_lays_21 rfl (lv_at hl 2 rfl) ?_
  refine x_iast E h 1 hf rfl dX9_lays_22 (fun S3 H locs hf h => ?_)
  refine lv_aload_n E.1 E.2.1 dX9_lays_23 rfl (lv_at hl 1 rfl) ?_
  refine x_getr E h 0 0 1 rfl rfl rfl (by decide) xinX9 kw1610 dX9_lays_24 ?_
  refine lv_iload E.1 E.2.1 dX9_lays_27 (lv_at hl 0 rfl) ?_
  refine lv_iconst (v := 1) E.1 E.2.1 dX9_lays_29 (by decide) ?_
  refine lv_iadd E.1 E.2.1 dX9_lays_30 ?_
  refine lv_iload_n E.1 E.2.1 dX9_lays_31 rfl (lv_at hl 3 rfl) ?_
  refine x_iast E h 1 hf rfl dX9_lays_32 (fun S5 H locs hf h => ?_)
  refine lv_aload_n E.1 E.2.1 dX9_lays_33 rfl (lv_at hl 1 rfl) ?_
  refine x_getr E h 0 0 1 rfl rfl rfl (by decide) xinX9 kw1610 dX9_lays_34 ?_
  refine lv_iload E.1 E.2.1 dX9_lays_37 (lv_at hl 0 rfl) ?_
  refine lv_iconst (v := 2) E.1 E.2.1 dX9_lays_39 (by decide) ?_
  refine lv_iadd E.1 E.2.1 dX9_lays_40 ?_
  refine lv_iload_n E.1 E.2.1 dX9_lays_41 rfl (lv_at hl 4 rfl) ?_
  refine x_iast E h 1 hf rfl dX9_lays_42 (fun S7 H locs hf h => ?_)
  refine lv_aload_n E.1 E.2.1 dX9_lays_43 rfl (lv_at hl 1 rfl) ?_
  refine x_getr E h 0 0 1 rfl rfl rfl (by decide) xinX9 kw1610 dX9_lays_44 ?_
  refine lv_iconst (v := 1) E.1 E.2.1 dX9_lays_47 (by decide) ?_
  refine lv_dup2_11 E.1 E.2.1 dX9_lays_48 rfl rfl ?_
  refine x_iald E h 1 hf rfl dX9_lays_49 (fun v9 hf => ?_)
  refine lv_iconst (v := 1) E.1 E.2.1 dX9_lays_50 (by decide) ?_
  refine lv_iadd E.1 E.2.1 dX9_lays_51 ?_
  refine x_iast E h 1 hf rfl dX9_lays_52 (fun S10 H locs hf h => ?_)
  refine lv_aload_n E.1 E.2.1 dX9_lays_53 rfl (lv_at hl 1 rfl) ?_
  refine x_getr E h 0 0 1 rfl rfl rfl (by decide) xinX9 kw1610 dX9_lays_54 ?_
  refine lv_iconst (v := 1) E.1 E.2.1 dX9_lays_57 (by decide) ?_
  refine x_iald E h 1 hf rfl dX9_lays_58 (fun v12 hf => ?_)
  refine lv_iconst (v := 1) E.1 E.2.1 dX9_lays_59 (by decide) ?_
  refine lv_isub E.1 E.2.1 dX9_lays_60 ?_
  exact x_iret E h hf dX9_lays_61
set_option maxHeartbeats 4000000 in
set_option maxRecDepth 100000 in
theorem c_X9_readsGutter (l : Launch) (D : va_G) (cy : Nat → ClassId) (s00 : State) (ad : Nat → Nat) (S : XS) (r9 : Int32) (S9 : XS) (hf : f_X9_readsGutter S = some (r9, S9)) : XI l yX9_readsGutter cX9_readsGutter 1 (some .boolean) 4 D cy s00 shMod ad S [.ref (ad 0)] r9 S9 := by
  refine XI.of (by decide) [(0, .ref (ad 0))] rfl (Nat.le_of_ble_eq_true rfl) (fun p e s m args below meth c A ls E h hl => ?_)
  unfold f_X9_readsGutter at hf
  refine lv_aload_n E.1 E.2.1 dX9_readsGutter_0 rfl (lv_at hl 0 rfl) ?_
  refine lv_iconst (v := 0) E.1 E.2.1 dX9_readsGutter_1 (by decide) ?_
  refine x_calli E h hl 0 hf (fun r0 Sq0 hr => c_X9_chimneyAt l D cy s00 _ S 0 r0 Sq0 hr) m_X9_chimneyAt rfl rfl kw1401 rfl rfl (Nat.le_of_ble_eq_true rfl) ⟨by decide, by decide⟩ ⟨Nat.zero_le _, Nat.zero_le _⟩ dX9_readsGutter_2 (fun v1 S2 H locs hf h => ?_)
  refine x_br hf (lv_if_eq (tgt := 57) E.1 E.2.1 dX9_readsGutter_5 (by decide)) (fun hf => ?_) (fun hf => ?_)
  · refine lv_iconst (v := 0) E.1 E.2.1 dX9_readsGutter_57 (by decide) ?_
    exact x_zic E h (by decide) hf dX9_readsGutter_58
  · refine lv_aload_n E.1 E.2.1 dX9_readsGutter_8 rfl (lv_at hl 0 rfl) ?_
    refine lv_aload_n E.1 E.2.1 dX9_readsGutter_9 rfl (lv_at hl 0 rfl) ?_
    refine x_getr E h 0 0 1 rfl rfl rfl (by decide) xinX9 kw1610 dX9_readsGutter_10 ?_
    refine lv_iconst (v := 0) E.1 E.2.1 dX9_readsGutter_13 (by decide) ?_
    refine x_iald E h 1 hf rfl dX9_readsGutter_14 (fun v3 hf => ?_)
    refine lv_iconst (v := 1) E.1 E.2.1 dX9_readsGutter_15 (by decide) ?_
    refine lv_isub E.1 E.2.1 dX9_readsGutter_16 ?_
    refine x_calli E h hl 0 hf (fun r0 Sq0 hr => c_X9_another l D cy s00 _ S2 (v3 - 1) r0 Sq0 hr) m_X9_another rfl rfl kw1405 rfl rfl (Nat.le_of_ble_eq_true rfl) ⟨by decide, by decide⟩ ⟨Nat.zero_le _, Nat.zero_le _⟩ dX9_readsGutter_17 (fun v4 S5 H locs hf h => ?_)
    refine x_br hf (lv_if_eq (tgt := 57) E.1 E.2.1 dX9_readsGutter_20 (by decide)) (fun hf => ?_) (fun hf => ?_)
    · refine lv_iconst (v := 0) E.1 E.2.1 dX9_readsGutter_57 (by decide) ?_
      exact x_zic E h (by decide) hf dX9_readsGutter_58
    · refine lv_aload_n E.1 E.2.1 dX9_readsGutter_23 rfl (lv_at hl 0 rfl) ?_
      refine lv_iconst (v := 2) E.1 E.2.1 dX9_readsGutter_24 (by decide) ?_
      refine lv_iconst (v := 1) E.1 E.2.1 dX9_readsGutter_25 (by decide) ?_
      refine lv_bipush (v := 9) E.1 E.2.1 dX9_readsGutter_26 (by decide) ?_
      refine x_calli E h hl 0 hf (fun r0 Sq0 hr => c_X9_number l D cy s00 _ S5 2 1 9 r0 Sq0 hr) m_X9_number rfl rfl kw1374 rfl rfl (Nat.le_of_ble_eq_true rfl) ⟨by decide, by decide⟩ ⟨Nat.zero_le _, Nat.zero_le _⟩ dX9_readsGutter_28 (fun v6 S7 H locs hf h => ?_)
      refine x_br hf (lv_if_eq (tgt := 57) E.1 E.2.1 dX9_readsGutter_31 (by decide)) (fun hf => ?_) (fun hf => ?_)
      · refine lv_iconst (v := 0) E.1 E.2.1 dX9_readsGutter_57 (by decide) ?_
        exact x_zic E h (by decide) hf dX9_readsGutter_58
      · refine lv_aload_n E.1 E.2.1 dX9_readsGutter_34 rfl (lv_at hl 0 rfl) ?_
        refine lv_aload_n E.1 E.2.1 dX9_readsGutter_35 rfl (lv_at hl 0 rfl) ?_
        refine x_getr E h 0 0 1 rfl rfl rfl (by decide) xinX9 kw1610 dX9_readsGutter_36 ?_
        refine lv_iconst (v := 1) E.1 E.2.1 dX9_readsGutter_39 (by decide) ?_
        refine x_iald E h 1 hf rfl dX9_readsGutter_40 (fun v8 hf => ?_)
        refine lv_bipush (v := 20) E.1 E.2.1 dX9_readsGutter_41 (by decide) ?_
        refine x_br hf (lv_icmp_ge (tgt := 50) E.1 E.2.1 dX9_readsGutter_43 (by decide)) (fun hf => ?_) (fun hf => ?_)
        · refine lv_iconst (v := 0) E.1 E.2.1 dX9_readsGutter_50 (by decide) ?_
          refine x_calli E h hl 0 hf (fun r0 Sq0 hr => c_X9_stops l D cy s00 _ S7 0 r0 Sq0 hr) m_X9_stops rfl rfl kw1389 rfl rfl (Nat.le_of_ble_eq_true rfl) ⟨by decide, by decide⟩ ⟨Nat.zero_le _, Nat.zero_le _⟩ dX9_readsGutter_51 (fun v9 S10 H locs hf h => ?_)
          refine x_brn hf (lv_if_ne (tgt := 59) E.1 E.2.1 dX9_readsGutter_54 (by decide)) (fun hf => ?_) (fun hf => ?_)
          · refine lv_aload_n E.1 E.2.1 dX9_readsGutter_59 rfl (lv_at hl 0 rfl) ?_
            refine lv_aload_n E.1 E.2.1 dX9_readsGutter_60 rfl (lv_at hl 0 rfl) ?_
            refine x_getr E h 0 22 10 rfl rfl rfl (by decide) xinX9 kw1632 dX9_readsGutter_61 ?_
            refine lv_iconst (v := 0) E.1 E.2.1 dX9_readsGutter_64 (by decide) ?_
            refine x_iald E h 10 hf rfl dX9_readsGutter_65 (fun v11 hf => ?_)
            refine lv_aload_n E.1 E.2.1 dX9_readsGutter_66 rfl (lv_at hl 0 rfl) ?_
            refine x_getr E h 0 22 10 rfl rfl rfl (by decide) xinX9 kw1632 dX9_readsGutter_67 ?_
            refine lv_iconst (v := 1) E.1 E.2.1 dX9_readsGutter_70 (by decide) ?_
            refine x_iald E h 10 hf rfl dX9_readsGutter_71 (fun v12 hf => ?_)
            refine lv_aload_n E.1 E.2.1 dX9_readsGutter_72 rfl (lv_at hl 0 rfl) ?_
            refine x_getr E h 0 22 10 rfl rfl rfl (by decide) xinX9 kw1632 dX9_readsGutter_73 ?_
            refine lv_iconst (v := 2) E.1 E.2.1 dX9_readsGutter_76 (by decide) ?_
            refine x_iald E h 10 hf rfl dX9_readsGutter_77 (fun v13 hf => ?_)
            refine x_calli E h hl 0 hf (fun r0 Sq0 hr => c_X9_lays l D cy s00 _ S10 v11 v12 v13 r0 Sq0 hr) m_X9_lays rfl rfl kw1409 rfl rfl (Nat.le_of_ble_eq_true rfl) ⟨by decide, by decide⟩ ⟨Nat.zero_le _, Nat.zero_le _⟩ dX9_readsGutter_78 (fun v14 S15 H locs hf h => ?_)
            refine lv_pop E.1 E.2.1 dX9_readsGutter_81 rfl ?_
            refine lv_iconst (v := 1) E.1 E.2.1 dX9_readsGutter_82 (by decide) ?_
            exact x_zic E h (by decide) hf dX9_readsGutter_83
          · refine lv_iconst (v := 0) E.1 E.2.1 dX9_readsGutter_57 (by decide) ?_
            exact x_zic E h (by decide) hf dX9_readsGutter_58
        · refine lv_iconst (v := 1) E.1 E.2.1 dX9_readsGutter_46 (by decide) ?_
          refine lv_goto (tgt := 51) E.1 E.2.1 dX9_readsGutter_47 (by decide) ?_
          refine x_calli E h hl 0 hf (fun r0 Sq0 hr => c_X9_stops l D cy s00 _ S7 1 r0 Sq0 hr) m_X9_stops rfl rfl kw1389 rfl rfl (Nat.le_of_ble_eq_true rfl) ⟨by decide, by decide⟩ ⟨Nat.zero_le _, Nat.zero_le _⟩ dX9_readsGutter_51 (fun v16 S17 H locs hf h => ?_)
          refine x_brn hf (lv_if_ne (tgt := 59) E.1 E.2.1 dX9_readsGutter_54 (by decide)) (fun hf => ?_) (fun hf => ?_)
          · refine lv_aload_n E.1 E.2.1 dX9_readsGutter_59 rfl (lv_at hl 0 rfl) ?_
            refine lv_aload_n E.1 E.2.1 dX9_readsGutter_60 rfl (lv_at hl 0 rfl) ?_
            refine x_getr E h 0 22 10 rfl rfl rfl (by decide) xinX9 kw1632 dX9_readsGutter_61 ?_
            refine lv_iconst (v := 0) E.1 E.2.1 dX9_readsGutter_64 (by decide) ?_
            refine x_iald E h 10 hf rfl dX9_readsGutter_65 (fun v18 hf => ?_)
            refine lv_aload_n E.1 E.2.1 dX9_readsGutter_66 rfl (lv_at hl 0 rfl) ?_
            refine x_getr E h 0 22 10 rfl rfl rfl (by decide) xinX9 kw1632 dX9_readsGutter_67 ?_
            refine lv_iconst (v := 1) E.1 E.2.1 dX9_readsGutter_70 (by decide) ?_
            refine x_iald E h 10 hf rfl dX9_readsGutter_71 (fun v19 hf => ?_)
            refine lv_aload_n E.1 E.2.1 dX9_readsGutter_72 rfl (lv_at hl 0 rfl) ?_
            refine x_getr E h 0 22 10 rfl rfl rfl (by decide) xinX9 kw1632 dX9_readsGutter_73 ?_
            refine lv_iconst (v := 2) E.1 E.2.1 dX9_readsGutter_76 (by decide) ?_
            refine x_iald E h 10 hf rfl dX9_readsGutter_77 (fun v20 hf => ?_)
            refine x_calli E h hl 0 hf (fun r0 Sq0 hr => c_X9_lays l D cy s00 _ S17 v18 v19 v20 r0 Sq0 hr) m_X9_lays rfl rfl kw1409 rfl rfl (Nat.le_of_ble_eq_true rfl) ⟨by decide, by decide⟩ ⟨Nat.zero_le _, Nat.zero_le _⟩ dX9_readsGutter_78 (fun v21 S22 H locs hf h => ?_)
            refine lv_pop E.1 E.2.1 dX9_readsGutter_81 rfl ?_
            refine lv_iconst (v := 1) E.1 E.2.1 dX9_readsGutter_82 (by decide) ?_
            exact x_zic E h (by decide) hf dX9_readsGutter_83
          · refine lv_iconst (v := 0) E.1 E.2.1 dX9_readsGutter_57 (by decide) ?_
            exact x_zic E h (by decide) hf dX9_readsGutter_58
set_option maxHeartbeats 4000000 in
set_option maxRecDepth 100000 in
theorem c_X9_sizesAt (l : Launch) (D : va_G) (cy : Nat → ClassId) (s00 : State) (ad : Nat → Nat) (S : XS) (p0 : Int32) (r9 : Int32) (S9 : XS) (hf : f_X9_sizesAt S p0 = some (r9, S9)) : XI l yX9_sizesAt cX9_sizesAt 2 (some .boolean) 3 D cy s00 shMod ad S [.ref (ad 0), .int p0] r9 S9 := by
  refine XI.of (by decide) [(0, .ref (ad 0)), (1, .int p0)] rfl (Nat.le_of_ble_eq_true rfl) (fun p e s m args below meth c A ls E h hl => ?_)
  unfold f_X9_sizesAt at hf
  refine lv_aload_n E.1 E.2.1 dX9_sizesAt_0 rfl (lv_at hl 0 rfl) ?_
  refine lv_iload_n E.1 E.2.1 dX9_sizesAt_1 rfl (lv_at hl 1 rfl) ?_
  refine lv_iconst (v := 1) E.1 E.2.1 dX9_sizesAt_2 (by decide) ?_
  refine lv_bipush (v := 9) E.1 E.2.1 dX9_sizesAt_3 (by decide) ?_
  refine x_calli E h hl 0 hf (fun r0 Sq0 hr => c_X9_number l D cy s00 _ S p0 1 9 r0 Sq0 hr) m_X9_number rfl rfl kw1374 rfl rfl (Nat.le_of_ble_eq_true rfl) ⟨by decide, by decide⟩ ⟨Nat.zero_le _, Nat.zero_le _⟩ dX9_sizesAt_5 (fun v1 S2 H locs hf h => ?_)
  refine x_br hf (lv_if_eq (tgt := 28) E.1 E.2.1 dX9_sizesAt_8 (by decide)) (fun hf => ?_) (fun hf => ?_)
  · refine lv_iconst (v := 0) E.1 E.2.1 dX9_sizesAt_28 (by decide) ?_
    exact x_zic E h (by decide) hf dX9_sizesAt_29
  · refine lv_aload_n E.1 E.2.1 dX9_sizesAt_11 rfl (lv_at hl 0 rfl) ?_
    refine lv_iload_n E.1 E.2.1 dX9_sizesAt_12 rfl (lv_at hl 1 rfl) ?_
    refine lv_iconst (v := 1) E.1 E.2.1 dX9_sizesAt_13 (by decide) ?_
    refine lv_iadd E.1 E.2.1 dX9_sizesAt_14 ?_
    refine lv_iconst (v := 1) E.1 E.2.1 dX9_sizesAt_15 (by decide) ?_
    refine lv_bipush (v := 9) E.1 E.2.1 dX9_sizesAt_16 (by decide) ?_
    refine x_calli E h hl 0 hf (fun r0 Sq0 hr => c_X9_number l D cy s00 _ S2 (p0 + 1) 1 9 r0 Sq0 hr) m_X9_number rfl rfl kw1374 rfl rfl (Nat.le_of_ble_eq_true rfl) ⟨by decide, by decide⟩ ⟨Nat.zero_le _, Nat.zero_le _⟩ dX9_sizesAt_18 (fun v3 S4 H locs hf h => ?_)
    refine x_br hf (lv_if_eq (tgt := 28) E.1 E.2.1 dX9_sizesAt_21 (by decide)) (fun hf => ?_) (fun hf => ?_)
    · refine lv_iconst (v := 0) E.1 E.2.1 dX9_sizesAt_28 (by decide) ?_
      exact x_zic E h (by decide) hf dX9_sizesAt_29
    · refine lv_iconst (v := 1) E.1 E.2.1 dX9_sizesAt_24 (by decide) ?_
      refine lv_goto (tgt := 29) E.1 E.2.1 dX9_sizesAt_25 (by decide) ?_
      exact x_zic E h (by decide) hf dX9_sizesAt_29
set_option maxHeartbeats 4000000 in
set_option maxRecDepth 100000 in
theorem c_X9_of (l : Launch) (D : va_G) (cy : Nat → ClassId) (s00 : State) (ad : Nat → Nat) (S : XS) (p0 p1 : Int32) (r9 : Int32) (hf : f_X9_of S p0 p1 = some r9) : XI l yX9_of cX9_of 3 (some .int) 0 D cy s00 shMod ad S [.ref (ad 0), .int p0, .int p1] r9 S := by
  refine XI.of (by decide) [(0, .ref (ad 0)), (1, .int p0), (2, .int p1)] rfl (Nat.le_of_ble_eq_true rfl) (fun p e s m args below meth c A ls E h hl => ?_)
  unfold f_X9_of at hf
  refine lv_aload_n E.1 E.2.1 dX9_of_0 rfl (lv_at hl 0 rfl) ?_
  refine x_getr E h 0 0 1 rfl rfl rfl (by decide) xinX9 kw1610 dX9_of_1 ?_
  refine lv_bipush (v := 90) E.1 E.2.1 dX9_of_4 (by decide) ?_
  refine lv_iconst (v := 4) E.1 E.2.1 dX9_of_6 (by decide) ?_
  refine lv_iload_n E.1 E.2.1 dX9_of_7 rfl (lv_at hl 1 rfl) ?_
  refine lv_imul E.1 E.2.1 dX9_of_8 ?_
  refine lv_iadd E.1 E.2.1 dX9_of_9 ?_
  refine lv_iload_n E.1 E.2.1 dX9_of_10 rfl (lv_at hl 2 rfl) ?_
  refine lv_iadd E.1 E.2.1 dX9_of_11 ?_
  refine x_iald E h 1 hf rfl dX9_of_12 (fun v1 hf => ?_)
  exact x_irp E h hf dX9_of_13
set_option maxHeartbeats 4000000 in
set_option maxRecDepth 100000 in
theorem w_X9_sitter_L2 {p : Program} {l : Launch} {e : Env} {s : State} {m : MethodId} {args : Array Value} {below : List Frame} {meth : Method} {c : Code} {D : va_G} {cy : Nat → ClassId} {s00 : State} {ad : Nat → Nat} {A : Nat → Prop}  {r9 : Int32} {u1 : Int32} {S : XS} {K : Int32 → Option (Int32)} (E : XE p s m args meth c cX9_sitter 3 RX9 (some .int) D cy s00) (hk : ∀ (m2 : Int32) (H : Heap) (locs : List Loc) (ls : Array Slot), K m2 = some r9 → XH D cy s00 shMod ad S A s H locs → lv_has ls 3 [(0, .ref (ad 0)), (1, .int u1), (2, .int m2)] → W p l e (xrm 1) s m args below meth c H locs 0 0 (MQ below (xqi D cy shMod ad r9 S A) args s 0 0 A) (F0 m 30 ls [])) :
    ∀ (n : Nat) (m2 : Int32) (H : Heap) (locs : List Loc) (ls : Array Slot), f_X9_sitter_L2 K S u1 n m2 = some r9 → XH D cy s00 shMod ad S A s H locs → lv_has ls 3 [(0, .ref (ad 0)), (1, .int u1), (2, .int m2)] → W p l e (xrm 1) s m args below meth c H locs 0 0 (MQ below (xqi D cy shMod ad r9 S A) args s 0 0 A) (F0 m 2 ls []) := by
  intro n
  induction n with
  | zero => intro m2 H locs ls hf; cases hf
  | succ n ih =>
    intro m2 H locs ls hf h hl
    rw [f_X9_sitter_L2] at hf
    refine lv_iload_n E.1 E.2.1 dX9_sitter_2 rfl (lv_at hl 2 rfl) ?_
    refine lv_aload_n E.1 E.2.1 dX9_sitter_3 rfl (lv_at hl 0 rfl) ?_
    refine x_getr E h 0 0 1 rfl rfl rfl (by decide) xinX9 kw1610 dX9_sitter_4 ?_
    refine lv_iconst (v := 2) E.1 E.2.1 dX9_sitter_7 (by decide) ?_
    refine x_iald E h 1 hf rfl dX9_sitter_8 (fun v1 hf => ?_)
    refine x_br hf (lv_icmp_ge (tgt := 30) E.1 E.2.1 dX9_sitter_9 (by decide)) (fun hf => ?_) (fun hf => ?_)
    · exact hk _ _ _ _ hf h (lv_sub hl [0, 1, 2] rfl)
    · refine lv_aload_n E.1 E.2.1 dX9_sitter_12 rfl (lv_at hl 0 rfl) ?_
      refine lv_iload_n E.1 E.2.1 dX9_sitter_13 rfl (lv_at hl 2 rfl) ?_
      refine lv_iconst (v := 3) E.1 E.2.1 dX9_sitter_14 (by decide) ?_
      refine x_callp E h hl 0 hf (fun r0 hr => c_X9_of l D cy s00 _ S m2 3 r0 hr) m_X9_of rfl rfl kw1429 rfl rfl (Nat.le_of_ble_eq_true rfl) ⟨by decide, by decide⟩ ⟨Nat.zero_le _, Nat.zero_le _⟩ dX9_sitter_15 (fun v2 H locs hf h => ?_)
      refine lv_iload_n E.1 E.2.1 dX9_sitter_18 rfl (lv_at hl 1 rfl) ?_
      refine x_brn hf (lv_icmp_ne (tgt := 24) E.1 E.2.1 dX9_sitter_19 (by decide)) (fun hf => ?_) (fun hf => ?_)
      · refine x_nv hf (fun v3 e9 hf => ?_)
        refine lv_iinc (v := v3) (lv' := [(2, .int v3), (0, .ref (ad 0)), (1, .int u1)]) E.1 E.2.1 dX9_sitter_24 hl (k := 2) rfl (by rw [e9]; rfl) (by decide) rfl (fun ls hl => ?_)
        refine lv_goto (tgt := 2) E.1 E.2.1 dX9_sitter_27 (by decide) ?_
        exact ih _ _ _ _ hf h (lv_sub hl [1, 2, 0] rfl)
      · refine lv_iload_n E.1 E.2.1 dX9_sitter_22 rfl (lv_at hl 2 rfl) ?_
        exact x_irp E h hf dX9_sitter_23
set_option maxHeartbeats 4000000 in
set_option maxRecDepth 100000 in
theorem c_X9_sitter (l : Launch) (D : va_G) (cy : Nat → ClassId) (s00 : State) (ad : Nat → Nat) (S : XS) (p0 : Int32) (r9 : Int32) (hf : f_X9_sitter S p0 = some r9) : XI l yX9_sitter cX9_sitter 3 (some .int) 1 D cy s00 shMod ad S [.ref (ad 0), .int p0] r9 S := by
  refine XI.of (by decide) [(0, .ref (ad 0)), (1, .int p0)] rfl (Nat.le_of_ble_eq_true rfl) (fun p e s m args below meth c A ls E h hl => ?_)
  unfold f_X9_sitter at hf
  refine lv_iconst (v := 0) E.1 E.2.1 dX9_sitter_0 (by decide) ?_
  refine lv_istore_n (lv' := [(2, .int 0), (0, .ref (ad 0)), (1, .int p0)]) E.1 E.2.1 dX9_sitter_1 rfl hl (by decide) rfl (fun ls hl => ?_)
  refine w_X9_sitter_L2 E ?_ _ _ _ _ _ hf h (lv_sub hl [1, 2, 0] rfl)
  intro v4 H locs ls hf h hl
  refine lv_iconst (v := (-1)) E.1 E.2.1 dX9_sitter_30 (by decide) ?_
  exact x_irp E h hf dX9_sitter_31
set_option maxHeartbeats 4000000 in
set_option maxRecDepth 100000 in
theorem c_X9_canEnter (l : Launch) (D : va_G) (cy : Nat → ClassId) (s00 : State) (ad : Nat → Nat) (S : XS) (p0 : Int32) (r9 : Int32) (hf : f_X9_canEnter S p0 = some r9) : XI l yX9_canEnter cX9_canEnter 2 (some .boolean) 2 D cy s00 shMod ad S [.ref (ad 0), .int p0] r9 S := by
  refine XI.of (by decide) [(0, .ref (ad 0)), (1, .int p0)] rfl (Nat.le_of_ble_eq_true rfl) (fun p e s m args below meth c A ls E h hl => ?_)
  unfold f_X9_canEnter at hf
  refine lv_aload_n E.1 E.2.1 dX9_canEnter_0 rfl (lv_at hl 0 rfl) ?_
  refine x_getr E h 0 0 1 rfl rfl rfl (by decide) xinX9 kw1610 dX9_canEnter_1 ?_
  refine lv_iconst (v := 2) E.1 E.2.1 dX9_canEnter_4 (by decide) ?_
  refine x_iald E h 1 hf rfl dX9_canEnter_5 (fun v1 hf => ?_)
  refine lv_bipush (v := 8) E.1 E.2.1 dX9_canEnter_6 (by decide) ?_
  refine x_br hf (lv_icmp_ge (tgt := 24) E.1 E.2.1 dX9_canEnter_8 (by decide)) (fun hf => ?_) (fun hf => ?_)
  · refine lv_iconst (v := 0) E.1 E.2.1 dX9_canEnter_24 (by decide) ?_
    exact x_zrc E h (by decide) hf dX9_canEnter_25
  · refine lv_aload_n E.1 E.2.1 dX9_canEnter_11 rfl (lv_at hl 0 rfl) ?_
    refine lv_iload_n E.1 E.2.1 dX9_canEnter_12 rfl (lv_at hl 1 rfl) ?_
    refine x_callp E h hl 0 hf (fun r0 hr => c_X9_sitter l D cy s00 _ S p0 r0 hr) m_X9_sitter rfl rfl kw1425 rfl rfl (Nat.le_of_ble_eq_true rfl) ⟨by decide, by decide⟩ ⟨Nat.zero_le _, Nat.zero_le _⟩ dX9_canEnter_13 (fun v2 H locs hf h => ?_)
    refine lv_iconst (v := (-1)) E.1 E.2.1 dX9_canEnter_16 (by decide) ?_
    refine x_brn hf (lv_icmp_ne (tgt := 24) E.1 E.2.1 dX9_canEnter_17 (by decide)) (fun hf => ?_) (fun hf => ?_)
    · refine lv_iconst (v := 0) E.1 E.2.1 dX9_canEnter_24 (by decide) ?_
      exact x_zrc E h (by decide) hf dX9_canEnter_25
    · refine lv_iconst (v := 1) E.1 E.2.1 dX9_canEnter_20 (by decide) ?_
      refine lv_goto (tgt := 25) E.1 E.2.1 dX9_canEnter_21 (by decide) ?_
      exact x_zrc E h (by decide) hf dX9_canEnter_25
set_option maxHeartbeats 4000000 in
set_option maxRecDepth 100000 in
theorem c_X9_to (l : Launch) (D : va_G) (cy : Nat → ClassId) (s00 : State) (ad : Nat → Nat) (S : XS) (p0 p1 p2 : Int32) (S9 : XS) (hf : f_X9_to S p0 p1 p2 = some S9) : XV l yX9_to cX9_to 4 none 0 D cy s00 shMod ad S [.ref (ad 0), .int p0, .int p1, .int p2] S9 := by
  refine XV.of (by decide) [(0, .ref (ad 0)), (1, .int p0), (2, .int p1), (3, .int p2)] rfl (Nat.le_of_ble_eq_true rfl) (fun p e s m args below meth c A ls E h hl => ?_)
  unfold f_X9_to at hf
  refine lv_aload_n E.1 E.2.1 dX9_to_0 rfl (lv_at hl 0 rfl) ?_
  refine x_getr E h 0 0 1 rfl rfl rfl (by decide) xinX9 kw1610 dX9_to_1 ?_
  refine lv_bipush (v := 90) E.1 E.2.1 dX9_to_4 (by decide) ?_
  refine lv_iconst (v := 4) E.1 E.2.1 dX9_to_6 (by decide) ?_
  refine lv_iload_n E.1 E.2.1 dX9_to_7 rfl (lv_at hl 1 rfl) ?_
  refine lv_imul E.1 E.2.1 dX9_to_8 ?_
  refine lv_iadd E.1 E.2.1 dX9_to_9 ?_
  refine lv_iload_n E.1 E.2.1 dX9_to_10 rfl (lv_at hl 2 rfl) ?_
  refine lv_iadd E.1 E.2.1 dX9_to_11 ?_
  refine lv_iload_n E.1 E.2.1 dX9_to_12 rfl (lv_at hl 3 rfl) ?_
  refine x_iast E h 1 hf rfl dX9_to_13 (fun S1 H locs hf h => ?_)
  exact x_vret E h hf dX9_to_14
set_option maxHeartbeats 4000000 in
set_option maxRecDepth 100000 in
theorem c_X9_enters (l : Launch) (D : va_G) (cy : Nat → ClassId) (s00 : State) (ad : Nat → Nat) (S : XS) (p0 p1 p2 : Int32) (r9 : Int32) (S9 : XS) (hf : f_X9_enters S p0 p1 p2 = some (r9, S9)) : XI l yX9_enters cX9_enters 5 (some .int) 1 D cy s00 shMod ad S [.ref (ad 0), .int p0, .int p1, .int p2] r9 S9 := by
  refine XI.of (by decide) [(0, .ref (ad 0)), (1, .int p0), (2, .int p1), (3, .int p2)] rfl (Nat.le_of_ble_eq_true rfl) (fun p e s m args below meth c A ls E h hl => ?_)
  unfold f_X9_enters at hf
  refine lv_aload_n E.1 E.2.1 dX9_enters_0 rfl (lv_at hl 0 rfl) ?_
  refine x_getr E h 0 0 1 rfl rfl rfl (by decide) xinX9 kw1610 dX9_enters_1 ?_
  refine lv_iconst (v := 2) E.1 E.2.1 dX9_enters_4 (by decide) ?_
  refine x_iald E h 1 hf rfl dX9_enters_5 (fun v1 hf => ?_)
  refine lv_istore (lv' := [(4, .int v1), (0, .ref (ad 0)), (1, .int p0), (2, .int p1), (3, .int p2)]) E.1 E.2.1 dX9_enters_6 hl (by decide) rfl (fun ls hl => ?_)
  refine lv_aload_n E.1 E.2.1 dX9_enters_8 rfl (lv_at hl 1 rfl) ?_
  refine x_getr E h 0 0 1 rfl rfl rfl (by decide) xinX9 kw1610 dX9_enters_9 ?_
  refine lv_iconst (v := 2) E.1 E.2.1 dX9_enters_12 (by decide) ?_
  refine lv_dup2_11 E.1 E.2.1 dX9_enters_13 rfl rfl ?_
  refine x_iald E h 1 hf rfl dX9_enters_14 (fun v2 hf => ?_)
  refine lv_iconst (v := 1) E.1 E.2.1 dX9_enters_15 (by decide) ?_
  refine lv_iadd E.1 E.2.1 dX9_enters_16 ?_
  refine x_iast E h 1 hf rfl dX9_enters_17 (fun S3 H locs hf h => ?_)
  refine lv_aload_n E.1 E.2.1 dX9_enters_18 rfl (lv_at hl 1 rfl) ?_
  refine lv_iload E.1 E.2.1 dX9_enters_19 (lv_at hl 0 rfl) ?_
  refine lv_iconst (v := 0) E.1 E.2.1 dX9_enters_21 (by decide) ?_
  refine lv_iload_n E.1 E.2.1 dX9_enters_22 rfl (lv_at hl 3 rfl) ?_
  refine x_callv E h hl 0 hf (fun r0 hr => c_X9_to l D cy s00 _ S3 v1 0 p1 r0 hr) m_X9_to rfl rfl kw1437 rfl rfl (Nat.le_of_ble_eq_true rfl) ⟨by decide, by decide⟩ ⟨Nat.zero_le _, Nat.zero_le _⟩ dX9_enters_23 (fun S5 H locs hf h => ?_)
  refine lv_aload_n E.1 E.2.1 dX9_enters_26 rfl (lv_at hl 1 rfl) ?_
  refine lv_iload E.1 E.2.1 dX9_enters_27 (lv_at hl 0 rfl) ?_
  refine lv_iconst (v := 1) E.1 E.2.1 dX9_enters_29 (by decide) ?_
  refine lv_iload_n E.1 E.2.1 dX9_enters_30 rfl (lv_at hl 4 rfl) ?_
  refine x_callv E h hl 0 hf (fun r0 hr => c_X9_to l D cy s00 _ S5 v1 1 p2 r0 hr) m_X9_to rfl rfl kw1437 rfl rfl (Nat.le_of_ble_eq_true rfl) ⟨by decide, by decide⟩ ⟨Nat.zero_le _, Nat.zero_le _⟩ dX9_enters_31 (fun S6 H locs hf h => ?_)
  refine lv_aload_n E.1 E.2.1 dX9_enters_34 rfl (lv_at hl 1 rfl) ?_
  refine lv_iload E.1 E.2.1 dX9_enters_35 (lv_at hl 0 rfl) ?_
  refine lv_iconst (v := 2) E.1 E.2.1 dX9_enters_37 (by decide) ?_
  refine lv_iconst (v := 5) E.1 E.2.1 dX9_enters_38 (by decide) ?_
  refine x_callv E h hl 0 hf (fun r0 hr => c_X9_to l D cy s00 _ S6 v1 2 5 r0 hr) m_X9_to rfl rfl kw1437 rfl rfl (Nat.le_of_ble_eq_true rfl) ⟨by decide, by decide⟩ ⟨Nat.zero_le _, Nat.zero_le _⟩ dX9_enters_39 (fun S7 H locs hf h => ?_)
  refine lv_aload_n E.1 E.2.1 dX9_enters_42 rfl (lv_at hl 1 rfl) ?_
  refine lv_iload E.1 E.2.1 dX9_enters_43 (lv_at hl 0 rfl) ?_
  refine lv_iconst (v := 3) E.1 E.2.1 dX9_enters_45 (by decide) ?_
  refine lv_iload_n E.1 E.2.1 dX9_enters_46 rfl (lv_at hl 2 rfl) ?_
  refine x_callv E h hl 0 hf (fun r0 hr => c_X9_to l D cy s00 _ S7 v1 3 p0 r0 hr) m_X9_to rfl rfl kw1437 rfl rfl (Nat.le_of_ble_eq_true rfl) ⟨by decide, by decide⟩ ⟨Nat.zero_le _, Nat.zero_le _⟩ dX9_enters_47 (fun S8 H locs hf h => ?_)
  refine lv_iload E.1 E.2.1 dX9_enters_50 (lv_at hl 0 rfl) ?_
  exact x_iret E h hf dX9_enters_52
set_option maxHeartbeats 4000000 in
set_option maxRecDepth 100000 in
theorem c_X9_readsCat (l : Launch) (D : va_G) (cy : Nat → ClassId) (s00 : State) (ad : Nat → Nat) (S : XS) (r9 : Int32) (S9 : XS) (hf : f_X9_readsCat S = some (r9, S9)) : XI l yX9_readsCat cX9_readsCat 1 (some .boolean) 4 D cy s00 shMod ad S [.ref (ad 0)] r9 S9 := by
  refine XI.of (by decide) [(0, .ref (ad 0))] rfl (Nat.le_of_ble_eq_true rfl) (fun p e s m args below meth c A ls E h hl => ?_)
  unfold f_X9_readsCat at hf
  refine lv_aload_n E.1 E.2.1 dX9_readsCat_0 rfl (lv_at hl 0 rfl) ?_
  refine lv_iconst (v := 0) E.1 E.2.1 dX9_readsCat_1 (by decide) ?_
  refine x_calli E h hl 0 hf (fun r0 Sq0 hr => c_X9_chimneyAt l D cy s00 _ S 0 r0 Sq0 hr) m_X9_chimneyAt rfl rfl kw1401 rfl rfl (Nat.le_of_ble_eq_true rfl) ⟨by decide, by decide⟩ ⟨Nat.zero_le _, Nat.zero_le _⟩ dX9_readsCat_2 (fun v1 S2 H locs hf h => ?_)
  refine x_br hf (lv_if_eq (tgt := 33) E.1 E.2.1 dX9_readsCat_5 (by decide)) (fun hf => ?_) (fun hf => ?_)
  · refine lv_iconst (v := 0) E.1 E.2.1 dX9_readsCat_33 (by decide) ?_
    exact x_zic E h (by decide) hf dX9_readsCat_34
  · refine lv_aload_n E.1 E.2.1 dX9_readsCat_8 rfl (lv_at hl 0 rfl) ?_
    refine lv_iconst (v := 1) E.1 E.2.1 dX9_readsCat_9 (by decide) ?_
    refine x_calli E h hl 0 hf (fun r0 Sq0 hr => c_X9_sizesAt l D cy s00 _ S2 1 r0 Sq0 hr) m_X9_sizesAt rfl rfl kw1417 rfl rfl (Nat.le_of_ble_eq_true rfl) ⟨by decide, by decide⟩ ⟨Nat.zero_le _, Nat.zero_le _⟩ dX9_readsCat_10 (fun v3 S4 H locs hf h => ?_)
    refine x_br hf (lv_if_eq (tgt := 33) E.1 E.2.1 dX9_readsCat_13 (by decide)) (fun hf => ?_) (fun hf => ?_)
    · refine lv_iconst (v := 0) E.1 E.2.1 dX9_readsCat_33 (by decide) ?_
      exact x_zic E h (by decide) hf dX9_readsCat_34
    · refine lv_aload_n E.1 E.2.1 dX9_readsCat_16 rfl (lv_at hl 0 rfl) ?_
      refine lv_aload_n E.1 E.2.1 dX9_readsCat_17 rfl (lv_at hl 0 rfl) ?_
      refine lv_aload_n E.1 E.2.1 dX9_readsCat_18 rfl (lv_at hl 0 rfl) ?_
      refine x_getr E h 0 22 10 rfl rfl rfl (by decide) xinX9 kw1632 dX9_readsCat_19 ?_
      refine lv_iconst (v := 0) E.1 E.2.1 dX9_readsCat_22 (by decide) ?_
      refine x_iald E h 10 hf rfl dX9_readsCat_23 (fun v5 hf => ?_)
      refine x_callp E h hl 0 hf (fun r0 hr => c_X9_canEnter l D cy s00 _ S4 v5 r0 hr) m_X9_canEnter rfl rfl kw1421 rfl rfl (Nat.le_of_ble_eq_true rfl) ⟨by decide, by decide⟩ ⟨Nat.zero_le _, Nat.zero_le _⟩ dX9_readsCat_24 (fun v6 H locs hf h => ?_)
      refine x_calli E h hl 0 hf (fun r0 Sq0 hr => c_X9_stops l D cy s00 _ S4 v6 r0 Sq0 hr) m_X9_stops rfl rfl kw1389 rfl rfl (Nat.le_of_ble_eq_true rfl) ⟨by decide, by decide⟩ ⟨Nat.zero_le _, Nat.zero_le _⟩ dX9_readsCat_27 (fun v7 S8 H locs hf h => ?_)
      refine x_brn hf (lv_if_ne (tgt := 35) E.1 E.2.1 dX9_readsCat_30 (by decide)) (fun hf => ?_) (fun hf => ?_)
      · refine lv_aload_n E.1 E.2.1 dX9_readsCat_35 rfl (lv_at hl 0 rfl) ?_
        refine lv_aload_n E.1 E.2.1 dX9_readsCat_36 rfl (lv_at hl 0 rfl) ?_
        refine x_getr E h 0 22 10 rfl rfl rfl (by decide) xinX9 kw1632 dX9_readsCat_37 ?_
        refine lv_iconst (v := 0) E.1 E.2.1 dX9_readsCat_40 (by decide) ?_
        refine x_iald E h 10 hf rfl dX9_readsCat_41 (fun v9 hf => ?_)
        refine lv_aload_n E.1 E.2.1 dX9_readsCat_42 rfl (lv_at hl 0 rfl) ?_
        refine x_getr E h 0 22 10 rfl rfl rfl (by decide) xinX9 kw1632 dX9_readsCat_43 ?_
        refine lv_iconst (v := 1) E.1 E.2.1 dX9_readsCat_46 (by decide) ?_
        refine x_iald E h 10 hf rfl dX9_readsCat_47 (fun v10 hf => ?_)
        refine lv_aload_n E.1 E.2.1 dX9_readsCat_48 rfl (lv_at hl 0 rfl) ?_
        refine x_getr E h 0 22 10 rfl rfl rfl (by decide) xinX9 kw1632 dX9_readsCat_49 ?_
        refine lv_iconst (v := 2) E.1 E.2.1 dX9_readsCat_52 (by decide) ?_
        refine x_iald E h 10 hf rfl dX9_readsCat_53 (fun v11 hf => ?_)
        refine x_calli E h hl 0 hf (fun r0 Sq0 hr => c_X9_enters l D cy s00 _ S8 v9 v10 v11 r0 Sq0 hr) m_X9_enters rfl rfl kw1433 rfl rfl (Nat.le_of_ble_eq_true rfl) ⟨by decide, by decide⟩ ⟨Nat.zero_le _, Nat.zero_le _⟩ dX9_readsCat_54 (fun v12 S13 H locs hf h => ?_)
        refine lv_pop E.1 E.2.1 dX9_readsCat_57 rfl ?_
        refine lv_iconst (v := 1) E.1 E.2.1 dX9_readsCat_58 (by decide) ?_
        exact x_zic E h (by decide) hf dX9_readsCat_59
      · refine lv_iconst (v := 0) E.1 E.2.1 dX9_readsCat_33 (by decide) ?_
        exact x_zic E h (by decide) hf dX9_readsCat_34
set_option maxHeartbeats 4000000 in
set_option maxRecDepth 100000 in
theorem c_X9_catAt (l : Launch) (D : va_G) (cy : Nat → ClassId) (s00 : State) (ad : Nat → Nat) (S : XS) (p0 : Int32) (r9 : Int32) (S9 : XS) (hf : f_X9_catAt S p0 = some (r9, S9)) : XI l yX9_catAt cX9_catAt 2 (some .boolean) 3 D cy s00 shMod ad S [.ref (ad 0), .int p0] r9 S9 := by
  refine XI.of (by decide) [(0, .ref (ad 0)), (1, .int p0)] rfl (Nat.le_of_ble_eq_true rfl) (fun p e s m args below meth c A ls E h hl => ?_)
  unfold f_X9_catAt at hf
  refine lv_aload_n E.1 E.2.1 dX9_catAt_0 rfl (lv_at hl 0 rfl) ?_
  refine lv_iload_n E.1 E.2.1 dX9_catAt_1 rfl (lv_at hl 1 rfl) ?_
  refine lv_iconst (v := 0) E.1 E.2.1 dX9_catAt_2 (by decide) ?_
  refine lv_aload_n E.1 E.2.1 dX9_catAt_3 rfl (lv_at hl 0 rfl) ?_
  refine x_getr E h 0 0 1 rfl rfl rfl (by decide) xinX9 kw1610 dX9_catAt_4 ?_
  refine lv_iconst (v := 2) E.1 E.2.1 dX9_catAt_7 (by decide) ?_
  refine x_iald E h 1 hf rfl dX9_catAt_8 (fun v1 hf => ?_)
  refine lv_iconst (v := 1) E.1 E.2.1 dX9_catAt_9 (by decide) ?_
  refine lv_isub E.1 E.2.1 dX9_catAt_10 ?_
  refine x_calli E h hl 0 hf (fun r0 Sq0 hr => c_X9_number l D cy s00 _ S p0 0 (v1 - 1) r0 Sq0 hr) m_X9_number rfl rfl kw1374 rfl rfl (Nat.le_of_ble_eq_true rfl) ⟨by decide, by decide⟩ ⟨Nat.zero_le _, Nat.zero_le _⟩ dX9_catAt_11 (fun v2 S3 H locs hf h => ?_)
  exact x_zret E h hf dX9_catAt_14
set_option maxHeartbeats 4000000 in
set_option maxRecDepth 100000 in
theorem c_X9_gutter (l : Launch) (D : va_G) (cy : Nat → ClassId) (s00 : State) (ad : Nat → Nat) (S : XS) (p0 p1 : Int32) (r9 : Int32) (hf : f_X9_gutter S p0 p1 = some r9) : XI l yX9_gutter cX9_gutter 3 (some .int) 0 D cy s00 shMod ad S [.ref (ad 0), .int p0, .int p1] r9 S := by
  refine XI.of (by decide) [(0, .ref (ad 0)), (1, .int p0), (2, .int p1)] rfl (Nat.le_of_ble_eq_true rfl) (fun p e s m args below meth c A ls E h hl => ?_)
  unfold f_X9_gutter at hf
  refine lv_aload_n E.1 E.2.1 dX9_gutter_0 rfl (lv_at hl 0 rfl) ?_
  refine x_getr E h 0 0 1 rfl rfl rfl (by decide) xinX9 kw1610 dX9_gutter_1 ?_
  refine lv_bipush (v := 30) E.1 E.2.1 dX9_gutter_4 (by decide) ?_
  refine lv_iconst (v := 3) E.1 E.2.1 dX9_gutter_6 (by decide) ?_
  refine lv_iload_n E.1 E.2.1 dX9_gutter_7 rfl (lv_at hl 1 rfl) ?_
  refine lv_imul E.1 E.2.1 dX9_gutter_8 ?_
  refine lv_iadd E.1 E.2.1 dX9_gutter_9 ?_
  refine lv_iload_n E.1 E.2.1 dX9_gutter_10 rfl (lv_at hl 2 rfl) ?_
  refine lv_iadd E.1 E.2.1 dX9_gutter_11 ?_
  refine x_iald E h 1 hf rfl dX9_gutter_12 (fun v1 hf => ?_)
  exact x_irp E h hf dX9_gutter_13
set_option maxHeartbeats 4000000 in
set_option maxRecDepth 100000 in
theorem c_X9_across (l : Launch) (D : va_G) (cy : Nat → ClassId) (s00 : State) (ad : Nat → Nat) (S : XS) (p0 p1 : Int32) (r9 : Int32) (hf : f_X9_across S p0 p1 = some r9) : XI l yX9_across cX9_across 3 (some .int) 1 D cy s00 shMod ad S [.ref (ad 0), .int p0, .int p1] r9 S := by
  refine XI.of (by decide) [(0, .ref (ad 0)), (1, .int p0), (2, .int p1)] rfl (Nat.le_of_ble_eq_true rfl) (fun p e s m args below meth c A ls E h hl => ?_)
  unfold f_X9_across at hf
  refine lv_aload_n E.1 E.2.1 dX9_across_0 rfl (lv_at hl 0 rfl) ?_
  refine lv_iload_n E.1 E.2.1 dX9_across_1 rfl (lv_at hl 1 rfl) ?_
  refine lv_iconst (v := 0) E.1 E.2.1 dX9_across_2 (by decide) ?_
  refine x_callp E h hl 0 hf (fun r0 hr => c_X9_gutter l D cy s00 _ S p0 0 r0 hr) m_X9_gutter rfl rfl kw1457 rfl rfl (Nat.le_of_ble_eq_true rfl) ⟨by decide, by decide⟩ ⟨Nat.zero_le _, Nat.zero_le _⟩ dX9_across_3 (fun v1 H locs hf h => ?_)
  refine lv_iload_n E.1 E.2.1 dX9_across_6 rfl (lv_at hl 2 rfl) ?_
  refine x_brn hf (lv_icmp_ne (tgt := 19) E.1 E.2.1 dX9_across_7 (by decide)) (fun hf => ?_) (fun hf => ?_)
  · refine lv_aload_n E.1 E.2.1 dX9_across_19 rfl (lv_at hl 0 rfl) ?_
    refine lv_iload_n E.1 E.2.1 dX9_across_20 rfl (lv_at hl 1 rfl) ?_
    refine lv_iconst (v := 1) E.1 E.2.1 dX9_across_21 (by decide) ?_
    refine x_callp E h hl 0 hf (fun r0 hr => c_X9_gutter l D cy s00 _ S p0 1 r0 hr) m_X9_gutter rfl rfl kw1457 rfl rfl (Nat.le_of_ble_eq_true rfl) ⟨by decide, by decide⟩ ⟨Nat.zero_le _, Nat.zero_le _⟩ dX9_across_22 (fun v2 H locs hf h => ?_)
    refine lv_iload_n E.1 E.2.1 dX9_across_25 rfl (lv_at hl 2 rfl) ?_
    refine x_brn hf (lv_icmp_ne (tgt := 38) E.1 E.2.1 dX9_across_26 (by decide)) (fun hf => ?_) (fun hf => ?_)
    · refine lv_iconst (v := (-1)) E.1 E.2.1 dX9_across_38 (by decide) ?_
      exact x_irp E h hf dX9_across_39
    · refine lv_aload_n E.1 E.2.1 dX9_across_29 rfl (lv_at hl 0 rfl) ?_
      refine lv_iload_n E.1 E.2.1 dX9_across_30 rfl (lv_at hl 1 rfl) ?_
      refine lv_iconst (v := 0) E.1 E.2.1 dX9_across_31 (by decide) ?_
      refine x_callp E h hl 0 hf (fun r0 hr => c_X9_gutter l D cy s00 _ S p0 0 r0 hr) m_X9_gutter rfl rfl kw1457 rfl rfl (Nat.le_of_ble_eq_true rfl) ⟨by decide, by decide⟩ ⟨Nat.zero_le _, Nat.zero_le _⟩ dX9_across_32 (fun v3 H locs hf h => ?_)
      refine lv_goto (tgt := 39) E.1 E.2.1 dX9_across_35 (by decide) ?_
      exact x_irp E h hf dX9_across_39
  · refine lv_aload_n E.1 E.2.1 dX9_across_10 rfl (lv_at hl 0 rfl) ?_
    refine lv_iload_n E.1 E.2.1 dX9_across_11 rfl (lv_at hl 1 rfl) ?_
    refine lv_iconst (v := 1) E.1 E.2.1 dX9_across_12 (by decide) ?_
    refine x_callp E h hl 0 hf (fun r0 hr => c_X9_gutter l D cy s00 _ S p0 1 r0 hr) m_X9_gutter rfl rfl kw1457 rfl rfl (Nat.le_of_ble_eq_true rfl) ⟨by decide, by decide⟩ ⟨Nat.zero_le _, Nat.zero_le _⟩ dX9_across_13 (fun v4 H locs hf h => ?_)
    refine lv_goto (tgt := 39) E.1 E.2.1 dX9_across_16 (by decide) ?_
    exact x_irp E h hf dX9_across_39
set_option maxHeartbeats 4000000 in
set_option maxRecDepth 100000 in
theorem c_X9_owner (l : Launch) (D : va_G) (cy : Nat → ClassId) (s00 : State) (ad : Nat → Nat) (S : XS) (p0 : Int32) (r9 : Int32) (hf : f_X9_owner S p0 = some r9) : XI l yX9_owner cX9_owner 2 (some .int) 0 D cy s00 shMod ad S [.ref (ad 0), .int p0] r9 S := by
  refine XI.of (by decide) [(0, .ref (ad 0)), (1, .int p0)] rfl (Nat.le_of_ble_eq_true rfl) (fun p e s m args below meth c A ls E h hl => ?_)
  unfold f_X9_owner at hf
  refine lv_aload_n E.1 E.2.1 dX9_owner_0 rfl (lv_at hl 0 rfl) ?_
  refine x_getr E h 0 0 1 rfl rfl rfl (by decide) xinX9 kw1610 dX9_owner_1 ?_
  refine lv_bipush (v := 20) E.1 E.2.1 dX9_owner_4 (by decide) ?_
  refine lv_iload_n E.1 E.2.1 dX9_owner_6 rfl (lv_at hl 1 rfl) ?_
  refine lv_iadd E.1 E.2.1 dX9_owner_7 ?_
  refine x_iald E h 1 hf rfl dX9_owner_8 (fun v1 hf => ?_)
  exact x_irp E h hf dX9_owner_9
set_option maxHeartbeats 4000000 in
set_option maxRecDepth 100000 in
theorem c_X9_truceLeft (l : Launch) (D : va_G) (cy : Nat → ClassId) (s00 : State) (ad : Nat → Nat) (S : XS) (p0 p1 : Int32) (r9 : Int32) (hf : f_X9_truceLeft S p0 p1 = some r9) : XI l yX9_truceLeft cX9_truceLeft 3 (some .int) 1 D cy s00 shMod ad S [.ref (ad 0), .int p0, .int p1] r9 S := by
  refine XI.of (by decide) [(0, .ref (ad 0)), (1, .int p0), (2, .int p1)] rfl (Nat.le_of_ble_eq_true rfl) (fun p e s m args below meth c A ls E h hl => ?_)
  unfold f_X9_truceLeft at hf
  refine lv_iconst (v := 0) E.1 E.2.1 dX9_truceLeft_0 (by decide) ?_
  refine lv_aload_n E.1 E.2.1 dX9_truceLeft_1 rfl (lv_at hl 0 rfl) ?_
  refine x_getr E h 0 0 1 rfl rfl rfl (by decide) xinX9 kw1610 dX9_truceLeft_2 ?_
  refine lv_bipush (v := 122) E.1 E.2.1 dX9_truceLeft_5 (by decide) ?_
  refine lv_bipush (v := 8) E.1 E.2.1 dX9_truceLeft_7 (by decide) ?_
  refine lv_iload_n E.1 E.2.1 dX9_truceLeft_9 rfl (lv_at hl 1 rfl) ?_
  refine lv_imul E.1 E.2.1 dX9_truceLeft_10 ?_
  refine lv_iadd E.1 E.2.1 dX9_truceLeft_11 ?_
  refine lv_iload_n E.1 E.2.1 dX9_truceLeft_12 rfl (lv_at hl 2 rfl) ?_
  refine lv_iadd E.1 E.2.1 dX9_truceLeft_13 ?_
  refine x_iald E h 1 hf rfl dX9_truceLeft_14 (fun v1 hf => ?_)
  refine lv_aload_n E.1 E.2.1 dX9_truceLeft_15 rfl (lv_at hl 0 rfl) ?_
  refine x_getr E h 0 0 1 rfl rfl rfl (by decide) xinX9 kw1610 dX9_truceLeft_16 ?_
  refine lv_iconst (v := 3) E.1 E.2.1 dX9_truceLeft_19 (by decide) ?_
  refine x_iald E h 1 hf rfl dX9_truceLeft_20 (fun v2 hf => ?_)
  refine lv_isub E.1 E.2.1 dX9_truceLeft_21 ?_
  refine va_mmax E.1 E.2.1 (E.2.2.1.trans hl.1.symm) E.2.2.2.1 (E.2.2.2.2.1 _ kw1473) (E.2.2.2.2.1 _ kw421) (E.2.2.2.2.1 _ kw124) (E.2.2.2.2.1 _ kw422) (by decide) (Nat.le_of_ble_eq_true rfl) (Nat.zero_le _) (Nat.zero_le _) dX9_truceLeft_22 ?_
  exact x_irp E h hf dX9_truceLeft_25
set_option maxHeartbeats 4000000 in
set_option maxRecDepth 100000 in
theorem c_X9_whyNotIn (l : Launch) (D : va_G) (cy : Nat → ClassId) (s00 : State) (ad : Nat → Nat) (S : XS) (p0 p1 : Int32) (r9 : Int32) (hf : f_X9_whyNotIn S p0 p1 = some r9) : XI l yX9_whyNotIn cX9_whyNotIn 5 (some .int) 2 D cy s00 shMod ad S [.ref (ad 0), .int p0, .int p1] r9 S := by
  refine XI.of (by decide) [(0, .ref (ad 0)), (1, .int p0), (2, .int p1)] rfl (Nat.le_of_ble_eq_true rfl) (fun p e s m args below meth c A ls E h hl => ?_)
  unfold f_X9_whyNotIn at hf
  refine lv_aload_n E.1 E.2.1 dX9_whyNotIn_0 rfl (lv_at hl 0 rfl) ?_
  refine lv_iload_n E.1 E.2.1 dX9_whyNotIn_1 rfl (lv_at hl 2 rfl) ?_
  refine x_callp E h hl 0 hf (fun r0 hr => c_X9_sitter l D cy s00 _ S p1 r0 hr) m_X9_sitter rfl rfl kw1425 rfl rfl (Nat.le_of_ble_eq_true rfl) ⟨by decide, by decide⟩ ⟨Nat.zero_le _, Nat.zero_le _⟩ dX9_whyNotIn_2 (fun v1 H locs hf h => ?_)
  refine lv_istore_n (lv' := [(3, .int v1), (0, .ref (ad 0)), (1, .int p0), (2, .int p1)]) E.1 E.2.1 dX9_whyNotIn_5 rfl hl (by decide) rfl (fun ls hl => ?_)
  refine lv_iload_n E.1 E.2.1 dX9_whyNotIn_6 rfl (lv_at hl 0 rfl) ?_
  refine lv_iconst (v := (-1)) E.1 E.2.1 dX9_whyNotIn_7 (by decide) ?_
  refine x_br hf (lv_icmp_eq (tgt := 18) E.1 E.2.1 dX9_whyNotIn_8 (by decide)) (fun hf => ?_) (fun hf => ?_)
  · refine lv_aload_n E.1 E.2.1 dX9_whyNotIn_18 rfl (lv_at hl 1 rfl) ?_
    refine lv_iload_n E.1 E.2.1 dX9_whyNotIn_19 rfl (lv_at hl 3 rfl) ?_
    refine x_callp E h hl 0 hf (fun r0 hr => c_X9_owner l D cy s00 _ S p1 r0 hr) m_X9_owner rfl rfl kw1465 rfl rfl (Nat.le_of_ble_eq_true rfl) ⟨by decide, by decide⟩ ⟨Nat.zero_le _, Nat.zero_le _⟩ dX9_whyNotIn_20 (fun v2 H locs hf h => ?_)
    refine lv_istore (lv' := [(4, .int v2), (3, .int v1), (0, .ref (ad 0)), (1, .int p0), (2, .int p1)]) E.1 E.2.1 dX9_whyNotIn_23 hl (by decide) rfl (fun ls hl => ?_)
    refine lv_iload E.1 E.2.1 dX9_whyNotIn_25 (lv_at hl 0 rfl) ?_
    refine lv_iconst (v := (-1)) E.1 E.2.1 dX9_whyNotIn_27 (by decide) ?_
    refine x_br hf (lv_icmp_eq (tgt := 51) E.1 E.2.1 dX9_whyNotIn_28 (by decide)) (fun hf => ?_) (fun hf => ?_)
    · refine lv_iconst (v := 0) E.1 E.2.1 dX9_whyNotIn_51 (by decide) ?_
      exact x_irp E h hf dX9_whyNotIn_52
    · refine lv_iload E.1 E.2.1 dX9_whyNotIn_31 (lv_at hl 0 rfl) ?_
      refine lv_iload_n E.1 E.2.1 dX9_whyNotIn_33 rfl (lv_at hl 3 rfl) ?_
      refine x_br hf (lv_icmp_eq (tgt := 51) E.1 E.2.1 dX9_whyNotIn_34 (by decide)) (fun hf => ?_) (fun hf => ?_)
      · refine lv_iconst (v := 0) E.1 E.2.1 dX9_whyNotIn_51 (by decide) ?_
        exact x_irp E h hf dX9_whyNotIn_52
      · refine lv_aload_n E.1 E.2.1 dX9_whyNotIn_37 rfl (lv_at hl 2 rfl) ?_
        refine lv_iload_n E.1 E.2.1 dX9_whyNotIn_38 rfl (lv_at hl 3 rfl) ?_
        refine lv_iload E.1 E.2.1 dX9_whyNotIn_39 (lv_at hl 0 rfl) ?_
        refine x_callp E h hl 0 hf (fun r0 hr => c_X9_truceLeft l D cy s00 _ S p0 v2 r0 hr) m_X9_truceLeft rfl rfl kw1469 rfl rfl (Nat.le_of_ble_eq_true rfl) ⟨by decide, by decide⟩ ⟨Nat.zero_le _, Nat.zero_le _⟩ dX9_whyNotIn_41 (fun v3 H locs hf h => ?_)
        refine x_brn hf (lv_if_ne (tgt := 51) E.1 E.2.1 dX9_whyNotIn_44 (by decide)) (fun hf => ?_) (fun hf => ?_)
        · refine lv_iconst (v := 0) E.1 E.2.1 dX9_whyNotIn_51 (by decide) ?_
          exact x_irp E h hf dX9_whyNotIn_52
        · refine lv_iconst (v := 4) E.1 E.2.1 dX9_whyNotIn_47 (by decide) ?_
          refine lv_goto (tgt := 52) E.1 E.2.1 dX9_whyNotIn_48 (by decide) ?_
          exact x_irp E h hf dX9_whyNotIn_52
  · refine lv_iload_n E.1 E.2.1 dX9_whyNotIn_11 rfl (lv_at hl 0 rfl) ?_
    refine lv_iload_n E.1 E.2.1 dX9_whyNotIn_12 rfl (lv_at hl 2 rfl) ?_
    refine x_br hf (lv_icmp_eq (tgt := 18) E.1 E.2.1 dX9_whyNotIn_13 (by decide)) (fun hf => ?_) (fun hf => ?_)
    · refine lv_aload_n E.1 E.2.1 dX9_whyNotIn_18 rfl (lv_at hl 1 rfl) ?_
      refine lv_iload_n E.1 E.2.1 dX9_whyNotIn_19 rfl (lv_at hl 3 rfl) ?_
      refine x_callp E h hl 0 hf (fun r0 hr => c_X9_owner l D cy s00 _ S p1 r0 hr) m_X9_owner rfl rfl kw1465 rfl rfl (Nat.le_of_ble_eq_true rfl) ⟨by decide, by decide⟩ ⟨Nat.zero_le _, Nat.zero_le _⟩ dX9_whyNotIn_20 (fun v4 H locs hf h => ?_)
      refine lv_istore (lv' := [(4, .int v4), (3, .int v1), (0, .ref (ad 0)), (1, .int p0), (2, .int p1)]) E.1 E.2.1 dX9_whyNotIn_23 hl (by decide) rfl (fun ls hl => ?_)
      refine lv_iload E.1 E.2.1 dX9_whyNotIn_25 (lv_at hl 0 rfl) ?_
      refine lv_iconst (v := (-1)) E.1 E.2.1 dX9_whyNotIn_27 (by decide) ?_
      refine x_br hf (lv_icmp_eq (tgt := 51) E.1 E.2.1 dX9_whyNotIn_28 (by decide)) (fun hf => ?_) (fun hf => ?_)
      · refine lv_iconst (v := 0) E.1 E.2.1 dX9_whyNotIn_51 (by decide) ?_
        exact x_irp E h hf dX9_whyNotIn_52
      · refine lv_iload E.1 E.2.1 dX9_whyNotIn_31 (lv_at hl 0 rfl) ?_
        refine lv_iload_n E.1 E.2.1 dX9_whyNotIn_33 rfl (lv_at hl 3 rfl) ?_
        refine x_br hf (lv_icmp_eq (tgt := 51) E.1 E.2.1 dX9_whyNotIn_34 (by decide)) (fun hf => ?_) (fun hf => ?_)
        · refine lv_iconst (v := 0) E.1 E.2.1 dX9_whyNotIn_51 (by decide) ?_
          exact x_irp E h hf dX9_whyNotIn_52
        · refine lv_aload_n E.1 E.2.1 dX9_whyNotIn_37 rfl (lv_at hl 2 rfl) ?_
          refine lv_iload_n E.1 E.2.1 dX9_whyNotIn_38 rfl (lv_at hl 3 rfl) ?_
          refine lv_iload E.1 E.2.1 dX9_whyNotIn_39 (lv_at hl 0 rfl) ?_
          refine x_callp E h hl 0 hf (fun r0 hr => c_X9_truceLeft l D cy s00 _ S p0 v4 r0 hr) m_X9_truceLeft rfl rfl kw1469 rfl rfl (Nat.le_of_ble_eq_true rfl) ⟨by decide, by decide⟩ ⟨Nat.zero_le _, Nat.zero_le _⟩ dX9_whyNotIn_41 (fun v5 H locs hf h => ?_)
          refine x_brn hf (lv_if_ne (tgt := 51) E.1 E.2.1 dX9_whyNotIn_44 (by decide)) (fun hf => ?_) (fun hf => ?_)
          · refine lv_iconst (v := 0) E.1 E.2.1 dX9_whyNotIn_51 (by decide) ?_
            exact x_irp E h hf dX9_whyNotIn_52
          · refine lv_iconst (v := 4) E.1 E.2.1 dX9_whyNotIn_47 (by decide) ?_
            refine lv_goto (tgt := 52) E.1 E.2.1 dX9_whyNotIn_48 (by decide) ?_
            exact x_irp E h hf dX9_whyNotIn_52
    · refine lv_iconst (v := 3) E.1 E.2.1 dX9_whyNotIn_16 (by decide) ?_
      exact x_irp E h hf dX9_whyNotIn_17
set_option maxHeartbeats 4000000 in
set_option maxRecDepth 100000 in
theorem c_X9_whyStays (l : Launch) (D : va_G) (cy : Nat → ClassId) (s00 : State) (ad : Nat → Nat) (S : XS) (p0 p1 : Int32) (r9 : Int32) (hf : f_X9_whyStays S p0 p1 = some r9) : XI l yX9_whyStays cX9_whyStays 4 (some .int) 3 D cy s00 shMod ad S [.ref (ad 0), .int p0, .int p1] r9 S := by
  refine XI.of (by decide) [(0, .ref (ad 0)), (1, .int p0), (2, .int p1)] rfl (Nat.le_of_ble_eq_true rfl) (fun p e s m args below meth c A ls E h hl => ?_)
  unfold f_X9_whyStays at hf
  refine lv_aload_n E.1 E.2.1 dX9_whyStays_0 rfl (lv_at hl 0 rfl) ?_
  refine lv_iload_n E.1 E.2.1 dX9_whyStays_1 rfl (lv_at hl 2 rfl) ?_
  refine lv_aload_n E.1 E.2.1 dX9_whyStays_2 rfl (lv_at hl 0 rfl) ?_
  refine lv_iload_n E.1 E.2.1 dX9_whyStays_3 rfl (lv_at hl 1 rfl) ?_
  refine lv_iconst (v := 3) E.1 E.2.1 dX9_whyStays_4 (by decide) ?_
  refine x_callp E h hl 0 hf (fun r0 hr => c_X9_of l D cy s00 _ S p0 3 r0 hr) m_X9_of rfl rfl kw1429 rfl rfl (Nat.le_of_ble_eq_true rfl) ⟨by decide, by decide⟩ ⟨Nat.zero_le _, Nat.zero_le _⟩ dX9_whyStays_5 (fun v1 H locs hf h => ?_)
  refine x_callp E h hl 0 hf (fun r0 hr => c_X9_across l D cy s00 _ S p1 v1 r0 hr) m_X9_across rfl rfl kw1453 rfl rfl (Nat.le_of_ble_eq_true rfl) ⟨by decide, by decide⟩ ⟨Nat.zero_le _, Nat.zero_le _⟩ dX9_whyStays_8 (fun v2 H locs hf h => ?_)
  refine lv_istore_n (lv' := [(3, .int v2), (0, .ref (ad 0)), (1, .int p0), (2, .int p1)]) E.1 E.2.1 dX9_whyStays_11 rfl hl (by decide) rfl (fun ls hl => ?_)
  refine lv_iload_n E.1 E.2.1 dX9_whyStays_12 rfl (lv_at hl 0 rfl) ?_
  refine lv_iconst (v := (-1)) E.1 E.2.1 dX9_whyStays_13 (by decide) ?_
  refine x_brn hf (lv_icmp_ne (tgt := 19) E.1 E.2.1 dX9_whyStays_14 (by decide)) (fun hf => ?_) (fun hf => ?_)
  · refine lv_aload_n E.1 E.2.1 dX9_whyStays_19 rfl (lv_at hl 1 rfl) ?_
    refine lv_iload_n E.1 E.2.1 dX9_whyStays_20 rfl (lv_at hl 3 rfl) ?_
    refine lv_iconst (v := 2) E.1 E.2.1 dX9_whyStays_21 (by decide) ?_
    refine x_callp E h hl 0 hf (fun r0 hr => c_X9_gutter l D cy s00 _ S p1 2 r0 hr) m_X9_gutter rfl rfl kw1457 rfl rfl (Nat.le_of_ble_eq_true rfl) ⟨by decide, by decide⟩ ⟨Nat.zero_le _, Nat.zero_le _⟩ dX9_whyStays_22 (fun v3 H locs hf h => ?_)
    refine lv_aload_n E.1 E.2.1 dX9_whyStays_25 rfl (lv_at hl 1 rfl) ?_
    refine lv_iload_n E.1 E.2.1 dX9_whyStays_26 rfl (lv_at hl 2 rfl) ?_
    refine lv_iconst (v := 0) E.1 E.2.1 dX9_whyStays_27 (by decide) ?_
    refine x_callp E h hl 0 hf (fun r0 hr => c_X9_of l D cy s00 _ S p0 0 r0 hr) m_X9_of rfl rfl kw1429 rfl rfl (Nat.le_of_ble_eq_true rfl) ⟨by decide, by decide⟩ ⟨Nat.zero_le _, Nat.zero_le _⟩ dX9_whyStays_28 (fun v4 H locs hf h => ?_)
    refine x_br hf (lv_icmp_ge (tgt := 38) E.1 E.2.1 dX9_whyStays_31 (by decide)) (fun hf => ?_) (fun hf => ?_)
    · refine lv_aload_n E.1 E.2.1 dX9_whyStays_38 rfl (lv_at hl 1 rfl) ?_
      refine lv_iload_n E.1 E.2.1 dX9_whyStays_39 rfl (lv_at hl 2 rfl) ?_
      refine lv_iload_n E.1 E.2.1 dX9_whyStays_40 rfl (lv_at hl 0 rfl) ?_
      refine x_callp E h hl 0 hf (fun r0 hr => c_X9_whyNotIn l D cy s00 _ S p0 v2 r0 hr) m_X9_whyNotIn rfl rfl kw1461 rfl rfl (Nat.le_of_ble_eq_true rfl) ⟨by decide, by decide⟩ ⟨Nat.zero_le _, Nat.zero_le _⟩ dX9_whyStays_41 (fun v5 H locs hf h => ?_)
      exact x_irp E h hf dX9_whyStays_44
    · refine lv_iconst (v := 2) E.1 E.2.1 dX9_whyStays_34 (by decide) ?_
      refine lv_goto (tgt := 44) E.1 E.2.1 dX9_whyStays_35 (by decide) ?_
      exact x_irp E h hf dX9_whyStays_44
  · refine lv_iconst (v := 1) E.1 E.2.1 dX9_whyStays_17 (by decide) ?_
    exact x_irp E h hf dX9_whyStays_18
set_option maxHeartbeats 4000000 in
set_option maxRecDepth 100000 in
theorem c_X9_goes (l : Launch) (D : va_G) (cy : Nat → ClassId) (s00 : State) (ad : Nat → Nat) (S : XS) (p0 p1 : Int32) (r9 : Int32) (S9 : XS) (hf : f_X9_goes S p0 p1 = some (r9, S9)) : XI l yX9_goes cX9_goes 3 (some .int) 2 D cy s00 shMod ad S [.ref (ad 0), .int p0, .int p1] r9 S9 := by
  refine XI.of (by decide) [(0, .ref (ad 0)), (1, .int p0), (2, .int p1)] rfl (Nat.le_of_ble_eq_true rfl) (fun p e s m args below meth c A ls E h hl => ?_)
  unfold f_X9_goes at hf
  refine lv_aload_n E.1 E.2.1 dX9_goes_0 rfl (lv_at hl 0 rfl) ?_
  refine lv_iload_n E.1 E.2.1 dX9_goes_1 rfl (lv_at hl 1 rfl) ?_
  refine lv_iconst (v := 3) E.1 E.2.1 dX9_goes_2 (by decide) ?_
  refine lv_aload_n E.1 E.2.1 dX9_goes_3 rfl (lv_at hl 0 rfl) ?_
  refine lv_iload_n E.1 E.2.1 dX9_goes_4 rfl (lv_at hl 2 rfl) ?_
  refine lv_aload_n E.1 E.2.1 dX9_goes_5 rfl (lv_at hl 0 rfl) ?_
  refine lv_iload_n E.1 E.2.1 dX9_goes_6 rfl (lv_at hl 1 rfl) ?_
  refine lv_iconst (v := 3) E.1 E.2.1 dX9_goes_7 (by decide) ?_
  refine x_callp E h hl 0 hf (fun r0 hr => c_X9_of l D cy s00 _ S p0 3 r0 hr) m_X9_of rfl rfl kw1429 rfl rfl (Nat.le_of_ble_eq_true rfl) ⟨by decide, by decide⟩ ⟨Nat.zero_le _, Nat.zero_le _⟩ dX9_goes_8 (fun v1 H locs hf h => ?_)
  refine x_callp E h hl 0 hf (fun r0 hr => c_X9_across l D cy s00 _ S p1 v1 r0 hr) m_X9_across rfl rfl kw1453 rfl rfl (Nat.le_of_ble_eq_true rfl) ⟨by decide, by decide⟩ ⟨Nat.zero_le _, Nat.zero_le _⟩ dX9_goes_11 (fun v2 H locs hf h => ?_)
  refine x_callv E h hl 0 hf (fun r0 hr => c_X9_to l D cy s00 _ S p0 3 v2 r0 hr) m_X9_to rfl rfl kw1437 rfl rfl (Nat.le_of_ble_eq_true rfl) ⟨by decide, by decide⟩ ⟨Nat.zero_le _, Nat.zero_le _⟩ dX9_goes_14 (fun S3 H locs hf h => ?_)
  refine lv_aload_n E.1 E.2.1 dX9_goes_17 rfl (lv_at hl 0 rfl) ?_
  refine lv_iload_n E.1 E.2.1 dX9_goes_18 rfl (lv_at hl 1 rfl) ?_
  refine lv_iconst (v := 3) E.1 E.2.1 dX9_goes_19 (by decide) ?_
  refine x_callp E h hl 0 hf (fun r0 hr => c_X9_of l D cy s00 _ S3 p0 3 r0 hr) m_X9_of rfl rfl kw1429 rfl rfl (Nat.le_of_ble_eq_true rfl) ⟨by decide, by decide⟩ ⟨Nat.zero_le _, Nat.zero_le _⟩ dX9_goes_20 (fun v4 H locs hf h => ?_)
  exact x_iret E h hf dX9_goes_23
set_option maxHeartbeats 4000000 in
set_option maxRecDepth 100000 in
theorem c_X9_readsStep (l : Launch) (D : va_G) (cy : Nat → ClassId) (s00 : State) (ad : Nat → Nat) (S : XS) (r9 : Int32) (S9 : XS) (hf : f_X9_readsStep S = some (r9, S9)) : XI l yX9_readsStep cX9_readsStep 1 (some .boolean) 4 D cy s00 shMod ad S [.ref (ad 0)] r9 S9 := by
  refine XI.of (by decide) [(0, .ref (ad 0))] rfl (Nat.le_of_ble_eq_true rfl) (fun p e s m args below meth c A ls E h hl => ?_)
  unfold f_X9_readsStep at hf
  refine lv_aload_n E.1 E.2.1 dX9_readsStep_0 rfl (lv_at hl 0 rfl) ?_
  refine lv_iconst (v := 0) E.1 E.2.1 dX9_readsStep_1 (by decide) ?_
  refine x_calli E h hl 0 hf (fun r0 Sq0 hr => c_X9_catAt l D cy s00 _ S 0 r0 Sq0 hr) m_X9_catAt rfl rfl kw1445 rfl rfl (Nat.le_of_ble_eq_true rfl) ⟨by decide, by decide⟩ ⟨Nat.zero_le _, Nat.zero_le _⟩ dX9_readsStep_2 (fun v1 S2 H locs hf h => ?_)
  refine x_br hf (lv_if_eq (tgt := 56) E.1 E.2.1 dX9_readsStep_5 (by decide)) (fun hf => ?_) (fun hf => ?_)
  · refine lv_iconst (v := 0) E.1 E.2.1 dX9_readsStep_56 (by decide) ?_
    exact x_zic E h (by decide) hf dX9_readsStep_57
  · refine lv_aload_n E.1 E.2.1 dX9_readsStep_8 rfl (lv_at hl 0 rfl) ?_
    refine lv_iconst (v := 1) E.1 E.2.1 dX9_readsStep_9 (by decide) ?_
    refine lv_iconst (v := 0) E.1 E.2.1 dX9_readsStep_10 (by decide) ?_
    refine lv_aload_n E.1 E.2.1 dX9_readsStep_11 rfl (lv_at hl 0 rfl) ?_
    refine x_getr E h 0 0 1 rfl rfl rfl (by decide) xinX9 kw1610 dX9_readsStep_12 ?_
    refine lv_iconst (v := 1) E.1 E.2.1 dX9_readsStep_15 (by decide) ?_
    refine x_iald E h 1 hf rfl dX9_readsStep_16 (fun v3 hf => ?_)
    refine lv_iconst (v := 1) E.1 E.2.1 dX9_readsStep_17 (by decide) ?_
    refine lv_isub E.1 E.2.1 dX9_readsStep_18 ?_
    refine x_calli E h hl 0 hf (fun r0 Sq0 hr => c_X9_number l D cy s00 _ S2 1 0 (v3 - 1) r0 Sq0 hr) m_X9_number rfl rfl kw1374 rfl rfl (Nat.le_of_ble_eq_true rfl) ⟨by decide, by decide⟩ ⟨Nat.zero_le _, Nat.zero_le _⟩ dX9_readsStep_19 (fun v4 S5 H locs hf h => ?_)
    refine x_br hf (lv_if_eq (tgt := 56) E.1 E.2.1 dX9_readsStep_22 (by decide)) (fun hf => ?_) (fun hf => ?_)
    · refine lv_iconst (v := 0) E.1 E.2.1 dX9_readsStep_56 (by decide) ?_
      exact x_zic E h (by decide) hf dX9_readsStep_57
    · refine lv_aload_n E.1 E.2.1 dX9_readsStep_25 rfl (lv_at hl 0 rfl) ?_
      refine lv_aload_n E.1 E.2.1 dX9_readsStep_26 rfl (lv_at hl 0 rfl) ?_
      refine lv_aload_n E.1 E.2.1 dX9_readsStep_27 rfl (lv_at hl 0 rfl) ?_
      refine x_getr E h 0 22 10 rfl rfl rfl (by decide) xinX9 kw1632 dX9_readsStep_28 ?_
      refine lv_iconst (v := 0) E.1 E.2.1 dX9_readsStep_31 (by decide) ?_
      refine x_iald E h 10 hf rfl dX9_readsStep_32 (fun v6 hf => ?_)
      refine lv_aload_n E.1 E.2.1 dX9_readsStep_33 rfl (lv_at hl 0 rfl) ?_
      refine x_getr E h 0 22 10 rfl rfl rfl (by decide) xinX9 kw1632 dX9_readsStep_34 ?_
      refine lv_iconst (v := 1) E.1 E.2.1 dX9_readsStep_37 (by decide) ?_
      refine x_iald E h 10 hf rfl dX9_readsStep_38 (fun v7 hf => ?_)
      refine x_callp E h hl 0 hf (fun r0 hr => c_X9_whyStays l D cy s00 _ S5 v6 v7 r0 hr) m_X9_whyStays rfl rfl kw1449 rfl rfl (Nat.le_of_ble_eq_true rfl) ⟨by decide, by decide⟩ ⟨Nat.zero_le _, Nat.zero_le _⟩ dX9_readsStep_39 (fun v8 H locs hf h => ?_)
      refine x_brn hf (lv_if_ne (tgt := 49) E.1 E.2.1 dX9_readsStep_42 (by decide)) (fun hf => ?_) (fun hf => ?_)
      · refine lv_iconst (v := 0) E.1 E.2.1 dX9_readsStep_49 (by decide) ?_
        refine x_calli E h hl 0 hf (fun r0 Sq0 hr => c_X9_stops l D cy s00 _ S5 0 r0 Sq0 hr) m_X9_stops rfl rfl kw1389 rfl rfl (Nat.le_of_ble_eq_true rfl) ⟨by decide, by decide⟩ ⟨Nat.zero_le _, Nat.zero_le _⟩ dX9_readsStep_50 (fun v9 S10 H locs hf h => ?_)
        refine x_brn hf (lv_if_ne (tgt := 58) E.1 E.2.1 dX9_readsStep_53 (by decide)) (fun hf => ?_) (fun hf => ?_)
        · refine lv_aload_n E.1 E.2.1 dX9_readsStep_58 rfl (lv_at hl 0 rfl) ?_
          refine lv_aload_n E.1 E.2.1 dX9_readsStep_59 rfl (lv_at hl 0 rfl) ?_
          refine x_getr E h 0 22 10 rfl rfl rfl (by decide) xinX9 kw1632 dX9_readsStep_60 ?_
          refine lv_iconst (v := 0) E.1 E.2.1 dX9_readsStep_63 (by decide) ?_
          refine x_iald E h 10 hf rfl dX9_readsStep_64 (fun v11 hf => ?_)
          refine lv_aload_n E.1 E.2.1 dX9_readsStep_65 rfl (lv_at hl 0 rfl) ?_
          refine x_getr E h 0 22 10 rfl rfl rfl (by decide) xinX9 kw1632 dX9_readsStep_66 ?_
          refine lv_iconst (v := 1) E.1 E.2.1 dX9_readsStep_69 (by decide) ?_
          refine x_iald E h 10 hf rfl dX9_readsStep_70 (fun v12 hf => ?_)
          refine x_calli E h hl 0 hf (fun r0 Sq0 hr => c_X9_goes l D cy s00 _ S10 v11 v12 r0 Sq0 hr) m_X9_goes rfl rfl kw1474 rfl rfl (Nat.le_of_ble_eq_true rfl) ⟨by decide, by decide⟩ ⟨Nat.zero_le _, Nat.zero_le _⟩ dX9_readsStep_71 (fun v13 S14 H locs hf h => ?_)
          refine lv_pop E.1 E.2.1 dX9_readsStep_74 rfl ?_
          refine lv_iconst (v := 1) E.1 E.2.1 dX9_readsStep_75 (by decide) ?_
          exact x_zic E h (by decide) hf dX9_readsStep_76
        · refine lv_iconst (v := 0) E.1 E.2.1 dX9_readsStep_56 (by decide) ?_
          exact x_zic E h (by decide) hf dX9_readsStep_57
      · refine lv_iconst (v := 1) E.1 E.2.1 dX9_readsStep_45 (by decide) ?_
        refine lv_goto (tgt := 50) E.1 E.2.1 dX9_readsStep_46 (by decide) ?_
        refine x_calli E h hl 0 hf (fun r0 Sq0 hr => c_X9_stops l D cy s00 _ S5 1 r0 Sq0 hr) m_X9_stops rfl rfl kw1389 rfl rfl (Nat.le_of_ble_eq_true rfl) ⟨by decide, by decide⟩ ⟨Nat.zero_le _, Nat.zero_le _⟩ dX9_readsStep_50 (fun v15 S16 H locs hf h => ?_)
        refine x_brn hf (lv_if_ne (tgt := 58) E.1 E.2.1 dX9_readsStep_53 (by decide)) (fun hf => ?_) (fun hf => ?_)
        · refine lv_aload_n E.1 E.2.1 dX9_readsStep_58 rfl (lv_at hl 0 rfl) ?_
          refine lv_aload_n E.1 E.2.1 dX9_readsStep_59 rfl (lv_at hl 0 rfl) ?_
          refine x_getr E h 0 22 10 rfl rfl rfl (by decide) xinX9 kw1632 dX9_readsStep_60 ?_
          refine lv_iconst (v := 0) E.1 E.2.1 dX9_readsStep_63 (by decide) ?_
          refine x_iald E h 10 hf rfl dX9_readsStep_64 (fun v17 hf => ?_)
          refine lv_aload_n E.1 E.2.1 dX9_readsStep_65 rfl (lv_at hl 0 rfl) ?_
          refine x_getr E h 0 22 10 rfl rfl rfl (by decide) xinX9 kw1632 dX9_readsStep_66 ?_
          refine lv_iconst (v := 1) E.1 E.2.1 dX9_readsStep_69 (by decide) ?_
          refine x_iald E h 10 hf rfl dX9_readsStep_70 (fun v18 hf => ?_)
          refine x_calli E h hl 0 hf (fun r0 Sq0 hr => c_X9_goes l D cy s00 _ S16 v17 v18 r0 Sq0 hr) m_X9_goes rfl rfl kw1474 rfl rfl (Nat.le_of_ble_eq_true rfl) ⟨by decide, by decide⟩ ⟨Nat.zero_le _, Nat.zero_le _⟩ dX9_readsStep_71 (fun v19 S20 H locs hf h => ?_)
          refine lv_pop E.1 E.2.1 dX9_readsStep_74 rfl ?_
          refine lv_iconst (v := 1) E.1 E.2.1 dX9_readsStep_75 (by decide) ?_
          exact x_zic E h (by decide) hf dX9_readsStep_76
        · refine lv_iconst (v := 0) E.1 E.2.1 dX9_readsStep_56 (by decide) ?_
          exact x_zic E h (by decide) hf dX9_readsStep_57
set_option maxHeartbeats 4000000 in
set_option maxRecDepth 100000 in
theorem w_X9_owns_L4 {p : Program} {l : Launch} {e : Env} {s : State} {m : MethodId} {args : Array Value} {below : List Frame} {meth : Method} {c : Code} {D : va_G} {cy : Nat → ClassId} {s00 : State} {ad : Nat → Nat} {A : Nat → Prop}  {r9 : Int32} {u1 : Int32} {S : XS} {K : Int32 → Int32 → Option (Int32)} (E : XE p s m args meth c cX9_owns 4 RX9 (some .int) D cy s00) (hk : ∀ (m2 m3 : Int32) (H : Heap) (locs : List Loc) (ls : Array Slot), K m2 m3 = some r9 → XH D cy s00 shMod ad S A s H locs → lv_has ls 4 [(0, .ref (ad 0)), (1, .int u1), (2, .int m2), (3, .int m3)] → W p l e (xrm 1) s m args below meth c H locs 0 0 (MQ below (xqi D cy shMod ad r9 S A) args s 0 0 A) (F0 m 37 ls [])) :
    ∀ (n : Nat) (m2 m3 : Int32) (H : Heap) (locs : List Loc) (ls : Array Slot), f_X9_owns_L4 K S u1 n m2 m3 = some r9 → XH D cy s00 shMod ad S A s H locs → lv_has ls 4 [(0, .ref (ad 0)), (1, .int u1), (2, .int m2), (3, .int m3)] → W p l e (xrm 1) s m args below meth c H locs 0 0 (MQ below (xqi D cy shMod ad r9 S A) args s 0 0 A) (F0 m 4 ls []) := by
  intro n
  induction n with
  | zero => intro m2 m3 H locs ls hf; cases hf
  | succ n ih =>
    intro m2 m3 H locs ls hf h hl
    rw [f_X9_owns_L4] at hf
    refine lv_iload_n E.1 E.2.1 dX9_owns_4 rfl (lv_at hl 3 rfl) ?_
    refine lv_aload_n E.1 E.2.1 dX9_owns_5 rfl (lv_at hl 0 rfl) ?_
    refine x_getr E h 0 0 1 rfl rfl rfl (by decide) xinX9 kw1610 dX9_owns_6 ?_
    refine lv_iconst (v := 0) E.1 E.2.1 dX9_owns_9 (by decide) ?_
    refine x_iald E h 1 hf rfl dX9_owns_10 (fun v1 hf => ?_)
    refine x_br hf (lv_icmp_ge (tgt := 37) E.1 E.2.1 dX9_owns_11 (by decide)) (fun hf => ?_) (fun hf => ?_)
    · exact hk _ _ _ _ _ hf h (lv_sub hl [0, 1, 2, 3] rfl)
    · refine lv_iload_n E.1 E.2.1 dX9_owns_14 rfl (lv_at hl 2 rfl) ?_
      refine lv_aload_n E.1 E.2.1 dX9_owns_15 rfl (lv_at hl 0 rfl) ?_
      refine lv_iload_n E.1 E.2.1 dX9_owns_16 rfl (lv_at hl 3 rfl) ?_
      refine x_callp E h hl 0 hf (fun r0 hr => c_X9_owner l D cy s00 _ S m3 r0 hr) m_X9_owner rfl rfl kw1465 rfl rfl (Nat.le_of_ble_eq_true rfl) ⟨by decide, by decide⟩ ⟨Nat.zero_le _, Nat.zero_le _⟩ dX9_owns_17 (fun v2 H locs hf h => ?_)
      refine lv_iload_n E.1 E.2.1 dX9_owns_20 rfl (lv_at hl 1 rfl) ?_
      refine x_brn hf (lv_icmp_ne (tgt := 28) E.1 E.2.1 dX9_owns_21 (by decide)) (fun hf => ?_) (fun hf => ?_)
      · refine lv_iconst (v := 0) E.1 E.2.1 dX9_owns_28 (by decide) ?_
        refine lv_iadd E.1 E.2.1 dX9_owns_29 ?_
        refine x_nm hf (fun v3 hf => ?_)
        refine lv_istore_n (lv' := [(2, .int v3), (0, .ref (ad 0)), (1, .int u1), (3, .int m3)]) E.1 E.2.1 dX9_owns_30 rfl hl (by decide) rfl (fun ls hl => ?_)
        refine x_nv hf (fun v4 e9 hf => ?_)
        refine lv_iinc (v := v4) (lv' := [(3, .int v4), (2, .int v3), (0, .ref (ad 0)), (1, .int u1)]) E.1 E.2.1 dX9_owns_31 hl (k := 3) rfl (by rw [e9]; rfl) (by decide) rfl (fun ls hl => ?_)
        refine lv_goto (tgt := 4) E.1 E.2.1 dX9_owns_34 (by decide) ?_
        exact ih _ _ _ _ _ hf h (lv_sub hl [2, 3, 1, 0] rfl)
      · refine lv_iconst (v := 1) E.1 E.2.1 dX9_owns_24 (by decide) ?_
        refine lv_goto (tgt := 29) E.1 E.2.1 dX9_owns_25 (by decide) ?_
        refine lv_iadd E.1 E.2.1 dX9_owns_29 ?_
        refine x_nm hf (fun v5 hf => ?_)
        refine lv_istore_n (lv' := [(2, .int v5), (0, .ref (ad 0)), (1, .int u1), (3, .int m3)]) E.1 E.2.1 dX9_owns_30 rfl hl (by decide) rfl (fun ls hl => ?_)
        refine x_nv hf (fun v6 e9 hf => ?_)
        refine lv_iinc (v := v6) (lv' := [(3, .int v6), (2, .int v5), (0, .ref (ad 0)), (1, .int u1)]) E.1 E.2.1 dX9_owns_31 hl (k := 3) rfl (by rw [e9]; rfl) (by decide) rfl (fun ls hl => ?_)
        refine lv_goto (tgt := 4) E.1 E.2.1 dX9_owns_34 (by decide) ?_
        exact ih _ _ _ _ _ hf h (lv_sub hl [2, 3, 1, 0] rfl)
set_option maxHeartbeats 4000000 in
set_option maxRecDepth 100000 in
theorem c_X9_owns (l : Launch) (D : va_G) (cy : Nat → ClassId) (s00 : State) (ad : Nat → Nat) (S : XS) (p0 : Int32) (r9 : Int32) (hf : f_X9_owns S p0 = some r9) : XI l yX9_owns cX9_owns 4 (some .int) 1 D cy s00 shMod ad S [.ref (ad 0), .int p0] r9 S := by
  refine XI.of (by decide) [(0, .ref (ad 0)), (1, .int p0)] rfl (Nat.le_of_ble_eq_true rfl) (fun p e s m args below meth c A ls E h hl => ?_)
  unfold f_X9_owns at hf
  refine lv_iconst (v := 0) E.1 E.2.1 dX9_owns_0 (by decide) ?_
  refine lv_istore_n (lv' := [(2, .int 0), (0, .ref (ad 0)), (1, .int p0)]) E.1 E.2.1 dX9_owns_1 rfl hl (by decide) rfl (fun ls hl => ?_)
  refine lv_iconst (v := 0) E.1 E.2.1 dX9_owns_2 (by decide) ?_
  refine lv_istore_n (lv' := [(3, .int 0), (2, .int 0), (0, .ref (ad 0)), (1, .int p0)]) E.1 E.2.1 dX9_owns_3 rfl hl (by decide) rfl (fun ls hl => ?_)
  refine w_X9_owns_L4 E ?_ _ _ _ _ _ _ hf h (lv_sub hl [2, 3, 1, 0] rfl)
  intro v7 v8 H locs ls hf h hl
  refine lv_iload_n E.1 E.2.1 dX9_owns_37 rfl (lv_at hl 2 rfl) ?_
  exact x_irp E h hf dX9_owns_38
set_option maxHeartbeats 4000000 in
set_option maxRecDepth 100000 in
theorem c_X9_whyLeaves (l : Launch) (D : va_G) (cy : Nat → ClassId) (s00 : State) (ad : Nat → Nat) (S : XS) (p0 : Int32) (r9 : Int32) (hf : f_X9_whyLeaves S p0 = some r9) : XI l yX9_whyLeaves cX9_whyLeaves 2 (some .int) 2 D cy s00 shMod ad S [.ref (ad 0), .int p0] r9 S := by
  refine XI.of (by decide) [(0, .ref (ad 0)), (1, .int p0)] rfl (Nat.le_of_ble_eq_true rfl) (fun p e s m args below meth c A ls E h hl => ?_)
  unfold f_X9_whyLeaves at hf
  refine lv_aload_n E.1 E.2.1 dX9_whyLeaves_0 rfl (lv_at hl 0 rfl) ?_
  refine lv_aload_n E.1 E.2.1 dX9_whyLeaves_1 rfl (lv_at hl 0 rfl) ?_
  refine lv_iload_n E.1 E.2.1 dX9_whyLeaves_2 rfl (lv_at hl 1 rfl) ?_
  refine lv_iconst (v := 3) E.1 E.2.1 dX9_whyLeaves_3 (by decide) ?_
  refine x_callp E h hl 0 hf (fun r0 hr => c_X9_of l D cy s00 _ S p0 3 r0 hr) m_X9_of rfl rfl kw1429 rfl rfl (Nat.le_of_ble_eq_true rfl) ⟨by decide, by decide⟩ ⟨Nat.zero_le _, Nat.zero_le _⟩ dX9_whyLeaves_4 (fun v1 H locs hf h => ?_)
  refine x_callp E h hl 0 hf (fun r0 hr => c_X9_owner l D cy s00 _ S v1 r0 hr) m_X9_owner rfl rfl kw1465 rfl rfl (Nat.le_of_ble_eq_true rfl) ⟨by decide, by decide⟩ ⟨Nat.zero_le _, Nat.zero_le _⟩ dX9_whyLeaves_7 (fun v2 H locs hf h => ?_)
  refine lv_iconst (v := (-1)) E.1 E.2.1 dX9_whyLeaves_10 (by decide) ?_
  refine x_br hf (lv_icmp_eq (tgt := 16) E.1 E.2.1 dX9_whyLeaves_11 (by decide)) (fun hf => ?_) (fun hf => ?_)
  · refine lv_aload_n E.1 E.2.1 dX9_whyLeaves_16 rfl (lv_at hl 0 rfl) ?_
    refine lv_iload_n E.1 E.2.1 dX9_whyLeaves_17 rfl (lv_at hl 1 rfl) ?_
    refine x_callp E h hl 0 hf (fun r0 hr => c_X9_owns l D cy s00 _ S p0 r0 hr) m_X9_owns rfl rfl kw1486 rfl rfl (Nat.le_of_ble_eq_true rfl) ⟨by decide, by decide⟩ ⟨Nat.zero_le _, Nat.zero_le _⟩ dX9_whyLeaves_18 (fun v3 H locs hf h => ?_)
    refine lv_iconst (v := 4) E.1 E.2.1 dX9_whyLeaves_21 (by decide) ?_
    refine x_brn hf (lv_icmp_ne (tgt := 30) E.1 E.2.1 dX9_whyLeaves_22 (by decide)) (fun hf => ?_) (fun hf => ?_)
    · refine lv_iconst (v := 0) E.1 E.2.1 dX9_whyLeaves_30 (by decide) ?_
      exact x_irp E h hf dX9_whyLeaves_31
    · refine lv_bipush (v := 6) E.1 E.2.1 dX9_whyLeaves_25 (by decide) ?_
      refine lv_goto (tgt := 31) E.1 E.2.1 dX9_whyLeaves_27 (by decide) ?_
      exact x_irp E h hf dX9_whyLeaves_31
  · refine lv_iconst (v := 5) E.1 E.2.1 dX9_whyLeaves_14 (by decide) ?_
    exact x_irp E h hf dX9_whyLeaves_15
set_option maxHeartbeats 4000000 in
set_option maxRecDepth 100000 in
theorem c_X9_claims (l : Launch) (D : va_G) (cy : Nat → ClassId) (s00 : State) (ad : Nat → Nat) (S : XS) (p0 : Int32) (r9 : Int32) (S9 : XS) (hf : f_X9_claims S p0 = some (r9, S9)) : XI l yX9_claims cX9_claims 2 (some .int) 2 D cy s00 shMod ad S [.ref (ad 0), .int p0] r9 S9 := by
  refine XI.of (by decide) [(0, .ref (ad 0)), (1, .int p0)] rfl (Nat.le_of_ble_eq_true rfl) (fun p e s m args below meth c A ls E h hl => ?_)
  unfold f_X9_claims at hf
  refine lv_aload_n E.1 E.2.1 dX9_claims_0 rfl (lv_at hl 0 rfl) ?_
  refine x_getr E h 0 0 1 rfl rfl rfl (by decide) xinX9 kw1610 dX9_claims_1 ?_
  refine lv_bipush (v := 20) E.1 E.2.1 dX9_claims_4 (by decide) ?_
  refine lv_aload_n E.1 E.2.1 dX9_claims_6 rfl (lv_at hl 0 rfl) ?_
  refine lv_iload_n E.1 E.2.1 dX9_claims_7 rfl (lv_at hl 1 rfl) ?_
  refine lv_iconst (v := 3) E.1 E.2.1 dX9_claims_8 (by decide) ?_
  refine x_callp E h hl 0 hf (fun r0 hr => c_X9_of l D cy s00 _ S p0 3 r0 hr) m_X9_of rfl rfl kw1429 rfl rfl (Nat.le_of_ble_eq_true rfl) ⟨by decide, by decide⟩ ⟨Nat.zero_le _, Nat.zero_le _⟩ dX9_claims_9 (fun v1 H locs hf h => ?_)
  refine lv_iadd E.1 E.2.1 dX9_claims_12 ?_
  refine lv_iload_n E.1 E.2.1 dX9_claims_13 rfl (lv_at hl 1 rfl) ?_
  refine x_iast E h 1 hf rfl dX9_claims_14 (fun S2 H locs hf h => ?_)
  refine lv_aload_n E.1 E.2.1 dX9_claims_15 rfl (lv_at hl 0 rfl) ?_
  refine lv_iload_n E.1 E.2.1 dX9_claims_16 rfl (lv_at hl 1 rfl) ?_
  refine x_callp E h hl 0 hf (fun r0 hr => c_X9_owns l D cy s00 _ S2 p0 r0 hr) m_X9_owns rfl rfl kw1486 rfl rfl (Nat.le_of_ble_eq_true rfl) ⟨by decide, by decide⟩ ⟨Nat.zero_le _, Nat.zero_le _⟩ dX9_claims_17 (fun v4 H locs hf h => ?_)
  exact x_iret E h hf dX9_claims_20
set_option maxHeartbeats 4000000 in
set_option maxRecDepth 100000 in
theorem c_X9_readsClaim (l : Launch) (D : va_G) (cy : Nat → ClassId) (s00 : State) (ad : Nat → Nat) (S : XS) (r9 : Int32) (S9 : XS) (hf : f_X9_readsClaim S = some (r9, S9)) : XI l yX9_readsClaim cX9_readsClaim 1 (some .boolean) 4 D cy s00 shMod ad S [.ref (ad 0)] r9 S9 := by
  refine XI.of (by decide) [(0, .ref (ad 0))] rfl (Nat.le_of_ble_eq_true rfl) (fun p e s m args below meth c A ls E h hl => ?_)
  unfold f_X9_readsClaim at hf
  refine lv_aload_n E.1 E.2.1 dX9_readsClaim_0 rfl (lv_at hl 0 rfl) ?_
  refine lv_iconst (v := 0) E.1 E.2.1 dX9_readsClaim_1 (by decide) ?_
  refine x_calli E h hl 0 hf (fun r0 Sq0 hr => c_X9_catAt l D cy s00 _ S 0 r0 Sq0 hr) m_X9_catAt rfl rfl kw1445 rfl rfl (Nat.le_of_ble_eq_true rfl) ⟨by decide, by decide⟩ ⟨Nat.zero_le _, Nat.zero_le _⟩ dX9_readsClaim_2 (fun v1 S2 H locs hf h => ?_)
  refine x_br hf (lv_if_eq (tgt := 33) E.1 E.2.1 dX9_readsClaim_5 (by decide)) (fun hf => ?_) (fun hf => ?_)
  · refine lv_iconst (v := 0) E.1 E.2.1 dX9_readsClaim_33 (by decide) ?_
    exact x_zic E h (by decide) hf dX9_readsClaim_34
  · refine lv_aload_n E.1 E.2.1 dX9_readsClaim_8 rfl (lv_at hl 0 rfl) ?_
    refine lv_aload_n E.1 E.2.1 dX9_readsClaim_9 rfl (lv_at hl 0 rfl) ?_
    refine lv_aload_n E.1 E.2.1 dX9_readsClaim_10 rfl (lv_at hl 0 rfl) ?_
    refine x_getr E h 0 22 10 rfl rfl rfl (by decide) xinX9 kw1632 dX9_readsClaim_11 ?_
    refine lv_iconst (v := 0) E.1 E.2.1 dX9_readsClaim_14 (by decide) ?_
    refine x_iald E h 10 hf rfl dX9_readsClaim_15 (fun v3 hf => ?_)
    refine x_callp E h hl 0 hf (fun r0 hr => c_X9_whyLeaves l D cy s00 _ S2 v3 r0 hr) m_X9_whyLeaves rfl rfl kw1482 rfl rfl (Nat.le_of_ble_eq_true rfl) ⟨by decide, by decide⟩ ⟨Nat.zero_le _, Nat.zero_le _⟩ dX9_readsClaim_16 (fun v4 H locs hf h => ?_)
    refine x_brn hf (lv_if_ne (tgt := 26) E.1 E.2.1 dX9_readsClaim_19 (by decide)) (fun hf => ?_) (fun hf => ?_)
    · refine lv_iconst (v := 0) E.1 E.2.1 dX9_readsClaim_26 (by decide) ?_
      refine x_calli E h hl 0 hf (fun r0 Sq0 hr => c_X9_stops l D cy s00 _ S2 0 r0 Sq0 hr) m_X9_stops rfl rfl kw1389 rfl rfl (Nat.le_of_ble_eq_true rfl) ⟨by decide, by decide⟩ ⟨Nat.zero_le _, Nat.zero_le _⟩ dX9_readsClaim_27 (fun v5 S6 H locs hf h => ?_)
      refine x_brn hf (lv_if_ne (tgt := 35) E.1 E.2.1 dX9_readsClaim_30 (by decide)) (fun hf => ?_) (fun hf => ?_)
      · refine lv_aload_n E.1 E.2.1 dX9_readsClaim_35 rfl (lv_at hl 0 rfl) ?_
        refine lv_aload_n E.1 E.2.1 dX9_readsClaim_36 rfl (lv_at hl 0 rfl) ?_
        refine x_getr E h 0 22 10 rfl rfl rfl (by decide) xinX9 kw1632 dX9_readsClaim_37 ?_
        refine lv_iconst (v := 0) E.1 E.2.1 dX9_readsClaim_40 (by decide) ?_
        refine x_iald E h 10 hf rfl dX9_readsClaim_41 (fun v7 hf => ?_)
        refine x_calli E h hl 0 hf (fun r0 Sq0 hr => c_X9_claims l D cy s00 _ S6 v7 r0 Sq0 hr) m_X9_claims rfl rfl kw1490 rfl rfl (Nat.le_of_ble_eq_true rfl) ⟨by decide, by decide⟩ ⟨Nat.zero_le _, Nat.zero_le _⟩ dX9_readsClaim_42 (fun v8 S9 H locs hf h => ?_)
        refine lv_pop E.1 E.2.1 dX9_readsClaim_45 rfl ?_
        refine lv_iconst (v := 1) E.1 E.2.1 dX9_readsClaim_46 (by decide) ?_
        exact x_zic E h (by decide) hf dX9_readsClaim_47
      · refine lv_iconst (v := 0) E.1 E.2.1 dX9_readsClaim_33 (by decide) ?_
        exact x_zic E h (by decide) hf dX9_readsClaim_34
    · refine lv_iconst (v := 1) E.1 E.2.1 dX9_readsClaim_22 (by decide) ?_
      refine lv_goto (tgt := 27) E.1 E.2.1 dX9_readsClaim_23 (by decide) ?_
      refine x_calli E h hl 0 hf (fun r0 Sq0 hr => c_X9_stops l D cy s00 _ S2 1 r0 Sq0 hr) m_X9_stops rfl rfl kw1389 rfl rfl (Nat.le_of_ble_eq_true rfl) ⟨by decide, by decide⟩ ⟨Nat.zero_le _, Nat.zero_le _⟩ dX9_readsClaim_27 (fun v10 S11 H locs hf h => ?_)
      refine x_brn hf (lv_if_ne (tgt := 35) E.1 E.2.1 dX9_readsClaim_30 (by decide)) (fun hf => ?_) (fun hf => ?_)
      · refine lv_aload_n E.1 E.2.1 dX9_readsClaim_35 rfl (lv_at hl 0 rfl) ?_
        refine lv_aload_n E.1 E.2.1 dX9_readsClaim_36 rfl (lv_at hl 0 rfl) ?_
        refine x_getr E h 0 22 10 rfl rfl rfl (by decide) xinX9 kw1632 dX9_readsClaim_37 ?_
        refine lv_iconst (v := 0) E.1 E.2.1 dX9_readsClaim_40 (by decide) ?_
        refine x_iald E h 10 hf rfl dX9_readsClaim_41 (fun v12 hf => ?_)
        refine x_calli E h hl 0 hf (fun r0 Sq0 hr => c_X9_claims l D cy s00 _ S11 v12 r0 Sq0 hr) m_X9_claims rfl rfl kw1490 rfl rfl (Nat.le_of_ble_eq_true rfl) ⟨by decide, by decide⟩ ⟨Nat.zero_le _, Nat.zero_le _⟩ dX9_readsClaim_42 (fun v13 S14 H locs hf h => ?_)
        refine lv_pop E.1 E.2.1 dX9_readsClaim_45 rfl ?_
        refine lv_iconst (v := 1) E.1 E.2.1 dX9_readsClaim_46 (by decide) ?_
        exact x_zic E h (by decide) hf dX9_readsClaim_47
      · refine lv_iconst (v := 0) E.1 E.2.1 dX9_readsClaim_33 (by decide) ?_
        exact x_zic E h (by decide) hf dX9_readsClaim_34
set_option maxHeartbeats 4000000 in
set_option maxRecDepth 100000 in
theorem c_X9_leaves (l : Launch) (D : va_G) (cy : Nat → ClassId) (s00 : State) (ad : Nat → Nat) (S : XS) (p0 : Int32) (r9 : Int32) (S9 : XS) (hf : f_X9_leaves S p0 = some (r9, S9)) : XI l yX9_leaves cX9_leaves 3 (some .int) 1 D cy s00 shMod ad S [.ref (ad 0), .int p0] r9 S9 := by
  refine XI.of (by decide) [(0, .ref (ad 0)), (1, .int p0)] rfl (Nat.le_of_ble_eq_true rfl) (fun p e s m args below meth c A ls E h hl => ?_)
  unfold f_X9_leaves at hf
  refine lv_aload_n E.1 E.2.1 dX9_leaves_0 rfl (lv_at hl 0 rfl) ?_
  refine lv_iload_n E.1 E.2.1 dX9_leaves_1 rfl (lv_at hl 1 rfl) ?_
  refine x_callp E h hl 0 hf (fun r0 hr => c_X9_owner l D cy s00 _ S p0 r0 hr) m_X9_owner rfl rfl kw1465 rfl rfl (Nat.le_of_ble_eq_true rfl) ⟨by decide, by decide⟩ ⟨Nat.zero_le _, Nat.zero_le _⟩ dX9_leaves_2 (fun v1 H locs hf h => ?_)
  refine lv_istore_n (lv' := [(2, .int v1), (0, .ref (ad 0)), (1, .int p0)]) E.1 E.2.1 dX9_leaves_5 rfl hl (by decide) rfl (fun ls hl => ?_)
  refine lv_aload_n E.1 E.2.1 dX9_leaves_6 rfl (lv_at hl 1 rfl) ?_
  refine x_getr E h 0 0 1 rfl rfl rfl (by decide) xinX9 kw1610 dX9_leaves_7 ?_
  refine lv_bipush (v := 20) E.1 E.2.1 dX9_leaves_10 (by decide) ?_
  refine lv_iload_n E.1 E.2.1 dX9_leaves_12 rfl (lv_at hl 2 rfl) ?_
  refine lv_iadd E.1 E.2.1 dX9_leaves_13 ?_
  refine lv_iconst (v := (-1)) E.1 E.2.1 dX9_leaves_14 (by decide) ?_
  refine x_iast E h 1 hf rfl dX9_leaves_15 (fun S2 H locs hf h => ?_)
  refine lv_iload_n E.1 E.2.1 dX9_leaves_16 rfl (lv_at hl 0 rfl) ?_
  exact x_iret E h hf dX9_leaves_17
set_option maxHeartbeats 4000000 in
set_option maxRecDepth 100000 in
theorem c_X9_readsAbandon (l : Launch) (D : va_G) (cy : Nat → ClassId) (s00 : State) (ad : Nat → Nat) (S : XS) (r9 : Int32) (S9 : XS) (hf : f_X9_readsAbandon S = some (r9, S9)) : XI l yX9_readsAbandon cX9_readsAbandon 1 (some .boolean) 4 D cy s00 shMod ad S [.ref (ad 0)] r9 S9 := by
  refine XI.of (by decide) [(0, .ref (ad 0))] rfl (Nat.le_of_ble_eq_true rfl) (fun p e s m args below meth c A ls E h hl => ?_)
  unfold f_X9_readsAbandon at hf
  refine lv_aload_n E.1 E.2.1 dX9_readsAbandon_0 rfl (lv_at hl 0 rfl) ?_
  refine lv_iconst (v := 0) E.1 E.2.1 dX9_readsAbandon_1 (by decide) ?_
  refine x_calli E h hl 0 hf (fun r0 Sq0 hr => c_X9_chimneyAt l D cy s00 _ S 0 r0 Sq0 hr) m_X9_chimneyAt rfl rfl kw1401 rfl rfl (Nat.le_of_ble_eq_true rfl) ⟨by decide, by decide⟩ ⟨Nat.zero_le _, Nat.zero_le _⟩ dX9_readsAbandon_2 (fun v1 S2 H locs hf h => ?_)
  refine x_br hf (lv_if_eq (tgt := 34) E.1 E.2.1 dX9_readsAbandon_5 (by decide)) (fun hf => ?_) (fun hf => ?_)
  · refine lv_iconst (v := 0) E.1 E.2.1 dX9_readsAbandon_34 (by decide) ?_
    exact x_zic E h (by decide) hf dX9_readsAbandon_35
  · refine lv_aload_n E.1 E.2.1 dX9_readsAbandon_8 rfl (lv_at hl 0 rfl) ?_
    refine lv_aload_n E.1 E.2.1 dX9_readsAbandon_9 rfl (lv_at hl 0 rfl) ?_
    refine lv_aload_n E.1 E.2.1 dX9_readsAbandon_10 rfl (lv_at hl 0 rfl) ?_
    refine x_getr E h 0 22 10 rfl rfl rfl (by decide) xinX9 kw1632 dX9_readsAbandon_11 ?_
    refine lv_iconst (v := 0) E.1 E.2.1 dX9_readsAbandon_14 (by decide) ?_
    refine x_iald E h 10 hf rfl dX9_readsAbandon_15 (fun v3 hf => ?_)
    refine x_callp E h hl 0 hf (fun r0 hr => c_X9_owner l D cy s00 _ S2 v3 r0 hr) m_X9_owner rfl rfl kw1465 rfl rfl (Nat.le_of_ble_eq_true rfl) ⟨by decide, by decide⟩ ⟨Nat.zero_le _, Nat.zero_le _⟩ dX9_readsAbandon_16 (fun v4 H locs hf h => ?_)
    refine lv_iconst (v := (-1)) E.1 E.2.1 dX9_readsAbandon_19 (by decide) ?_
    refine x_br hf (lv_icmp_eq (tgt := 27) E.1 E.2.1 dX9_readsAbandon_20 (by decide)) (fun hf => ?_) (fun hf => ?_)
    · refine lv_iconst (v := 0) E.1 E.2.1 dX9_readsAbandon_27 (by decide) ?_
      refine x_calli E h hl 0 hf (fun r0 Sq0 hr => c_X9_stops l D cy s00 _ S2 0 r0 Sq0 hr) m_X9_stops rfl rfl kw1389 rfl rfl (Nat.le_of_ble_eq_true rfl) ⟨by decide, by decide⟩ ⟨Nat.zero_le _, Nat.zero_le _⟩ dX9_readsAbandon_28 (fun v5 S6 H locs hf h => ?_)
      refine x_brn hf (lv_if_ne (tgt := 36) E.1 E.2.1 dX9_readsAbandon_31 (by decide)) (fun hf => ?_) (fun hf => ?_)
      · refine lv_aload_n E.1 E.2.1 dX9_readsAbandon_36 rfl (lv_at hl 0 rfl) ?_
        refine lv_aload_n E.1 E.2.1 dX9_readsAbandon_37 rfl (lv_at hl 0 rfl) ?_
        refine x_getr E h 0 22 10 rfl rfl rfl (by decide) xinX9 kw1632 dX9_readsAbandon_38 ?_
        refine lv_iconst (v := 0) E.1 E.2.1 dX9_readsAbandon_41 (by decide) ?_
        refine x_iald E h 10 hf rfl dX9_readsAbandon_42 (fun v7 hf => ?_)
        refine x_calli E h hl 0 hf (fun r0 Sq0 hr => c_X9_leaves l D cy s00 _ S6 v7 r0 Sq0 hr) m_X9_leaves rfl rfl kw1498 rfl rfl (Nat.le_of_ble_eq_true rfl) ⟨by decide, by decide⟩ ⟨Nat.zero_le _, Nat.zero_le _⟩ dX9_readsAbandon_43 (fun v8 S9 H locs hf h => ?_)
        refine lv_pop E.1 E.2.1 dX9_readsAbandon_46 rfl ?_
        refine lv_iconst (v := 1) E.1 E.2.1 dX9_readsAbandon_47 (by decide) ?_
        exact x_zic E h (by decide) hf dX9_readsAbandon_48
      · refine lv_iconst (v := 0) E.1 E.2.1 dX9_readsAbandon_34 (by decide) ?_
        exact x_zic E h (by decide) hf dX9_readsAbandon_35
    · refine lv_iconst (v := 1) E.1 E.2.1 dX9_readsAbandon_23 (by decide) ?_
      refine lv_goto (tgt := 28) E.1 E.2.1 dX9_readsAbandon_24 (by decide) ?_
      refine x_calli E h hl 0 hf (fun r0 Sq0 hr => c_X9_stops l D cy s00 _ S2 1 r0 Sq0 hr) m_X9_stops rfl rfl kw1389 rfl rfl (Nat.le_of_ble_eq_true rfl) ⟨by decide, by decide⟩ ⟨Nat.zero_le _, Nat.zero_le _⟩ dX9_readsAbandon_28 (fun v10 S11 H locs hf h => ?_)
      refine x_brn hf (lv_if_ne (tgt := 36) E.1 E.2.1 dX9_readsAbandon_31 (by decide)) (fun hf => ?_) (fun hf => ?_)
      · refine lv_aload_n E.1 E.2.1 dX9_readsAbandon_36 rfl (lv_at hl 0 rfl) ?_
        refine lv_aload_n E.1 E.2.1 dX9_readsAbandon_37 rfl (lv_at hl 0 rfl) ?_
        refine x_getr E h 0 22 10 rfl rfl rfl (by decide) xinX9 kw1632 dX9_readsAbandon_38 ?_
        refine lv_iconst (v := 0) E.1 E.2.1 dX9_readsAbandon_41 (by decide) ?_
        refine x_iald E h 10 hf rfl dX9_readsAbandon_42 (fun v12 hf => ?_)
        refine x_calli E h hl 0 hf (fun r0 Sq0 hr => c_X9_leaves l D cy s00 _ S11 v12 r0 Sq0 hr) m_X9_leaves rfl rfl kw1498 rfl rfl (Nat.le_of_ble_eq_true rfl) ⟨by decide, by decide⟩ ⟨Nat.zero_le _, Nat.zero_le _⟩ dX9_readsAbandon_43 (fun v13 S14 H locs hf h => ?_)
        refine lv_pop E.1 E.2.1 dX9_readsAbandon_46 rfl ?_
        refine lv_iconst (v := 1) E.1 E.2.1 dX9_readsAbandon_47 (by decide) ?_
        exact x_zic E h (by decide) hf dX9_readsAbandon_48
      · refine lv_iconst (v := 0) E.1 E.2.1 dX9_readsAbandon_34 (by decide) ?_
        exact x_zic E h (by decide) hf dX9_readsAbandon_35
set_option maxHeartbeats 4000000 in
set_option maxRecDepth 100000 in
theorem c_X9_joins (l : Launch) (D : va_G) (cy : Nat → ClassId) (s00 : State) (ad : Nat → Nat) (S : XS) (p0 p1 p2 : Int32) (r9 : Int32) (hf : f_X9_joins S p0 p1 p2 = some r9) : XI l yX9_joins cX9_joins 4 (some .boolean) 1 D cy s00 shMod ad S [.ref (ad 0), .int p0, .int p1, .int p2] r9 S := by
  refine XI.of (by decide) [(0, .ref (ad 0)), (1, .int p0), (2, .int p1), (3, .int p2)] rfl (Nat.le_of_ble_eq_true rfl) (fun p e s m args below meth c A ls E h hl => ?_)
  unfold f_X9_joins at hf
  refine lv_aload_n E.1 E.2.1 dX9_joins_0 rfl (lv_at hl 0 rfl) ?_
  refine lv_iload_n E.1 E.2.1 dX9_joins_1 rfl (lv_at hl 1 rfl) ?_
  refine lv_iconst (v := 0) E.1 E.2.1 dX9_joins_2 (by decide) ?_
  refine x_callp E h hl 0 hf (fun r0 hr => c_X9_gutter l D cy s00 _ S p0 0 r0 hr) m_X9_gutter rfl rfl kw1457 rfl rfl (Nat.le_of_ble_eq_true rfl) ⟨by decide, by decide⟩ ⟨Nat.zero_le _, Nat.zero_le _⟩ dX9_joins_3 (fun v1 H locs hf h => ?_)
  refine lv_iload_n E.1 E.2.1 dX9_joins_6 rfl (lv_at hl 2 rfl) ?_
  refine x_brn hf (lv_icmp_ne (tgt := 20) E.1 E.2.1 dX9_joins_7 (by decide)) (fun hf => ?_) (fun hf => ?_)
  · refine lv_aload_n E.1 E.2.1 dX9_joins_20 rfl (lv_at hl 0 rfl) ?_
    refine lv_iload_n E.1 E.2.1 dX9_joins_21 rfl (lv_at hl 1 rfl) ?_
    refine lv_iconst (v := 0) E.1 E.2.1 dX9_joins_22 (by decide) ?_
    refine x_callp E h hl 0 hf (fun r0 hr => c_X9_gutter l D cy s00 _ S p0 0 r0 hr) m_X9_gutter rfl rfl kw1457 rfl rfl (Nat.le_of_ble_eq_true rfl) ⟨by decide, by decide⟩ ⟨Nat.zero_le _, Nat.zero_le _⟩ dX9_joins_23 (fun v2 H locs hf h => ?_)
    refine lv_iload_n E.1 E.2.1 dX9_joins_26 rfl (lv_at hl 3 rfl) ?_
    refine x_brn hf (lv_icmp_ne (tgt := 44) E.1 E.2.1 dX9_joins_27 (by decide)) (fun hf => ?_) (fun hf => ?_)
    · refine lv_iconst (v := 0) E.1 E.2.1 dX9_joins_44 (by decide) ?_
      exact x_zrc E h (by decide) hf dX9_joins_45
    · refine lv_aload_n E.1 E.2.1 dX9_joins_30 rfl (lv_at hl 0 rfl) ?_
      refine lv_iload_n E.1 E.2.1 dX9_joins_31 rfl (lv_at hl 1 rfl) ?_
      refine lv_iconst (v := 1) E.1 E.2.1 dX9_joins_32 (by decide) ?_
      refine x_callp E h hl 0 hf (fun r0 hr => c_X9_gutter l D cy s00 _ S p0 1 r0 hr) m_X9_gutter rfl rfl kw1457 rfl rfl (Nat.le_of_ble_eq_true rfl) ⟨by decide, by decide⟩ ⟨Nat.zero_le _, Nat.zero_le _⟩ dX9_joins_33 (fun v3 H locs hf h => ?_)
      refine lv_iload_n E.1 E.2.1 dX9_joins_36 rfl (lv_at hl 2 rfl) ?_
      refine x_brn hf (lv_icmp_ne (tgt := 44) E.1 E.2.1 dX9_joins_37 (by decide)) (fun hf => ?_) (fun hf => ?_)
      · refine lv_iconst (v := 0) E.1 E.2.1 dX9_joins_44 (by decide) ?_
        exact x_zrc E h (by decide) hf dX9_joins_45
      · refine lv_iconst (v := 1) E.1 E.2.1 dX9_joins_40 (by decide) ?_
        refine lv_goto (tgt := 45) E.1 E.2.1 dX9_joins_41 (by decide) ?_
        exact x_zrc E h (by decide) hf dX9_joins_45
  · refine lv_aload_n E.1 E.2.1 dX9_joins_10 rfl (lv_at hl 0 rfl) ?_
    refine lv_iload_n E.1 E.2.1 dX9_joins_11 rfl (lv_at hl 1 rfl) ?_
    refine lv_iconst (v := 1) E.1 E.2.1 dX9_joins_12 (by decide) ?_
    refine x_callp E h hl 0 hf (fun r0 hr => c_X9_gutter l D cy s00 _ S p0 1 r0 hr) m_X9_gutter rfl rfl kw1457 rfl rfl (Nat.le_of_ble_eq_true rfl) ⟨by decide, by decide⟩ ⟨Nat.zero_le _, Nat.zero_le _⟩ dX9_joins_13 (fun v4 H locs hf h => ?_)
    refine lv_iload_n E.1 E.2.1 dX9_joins_16 rfl (lv_at hl 3 rfl) ?_
    refine x_br hf (lv_icmp_eq (tgt := 40) E.1 E.2.1 dX9_joins_17 (by decide)) (fun hf => ?_) (fun hf => ?_)
    · refine lv_iconst (v := 1) E.1 E.2.1 dX9_joins_40 (by decide) ?_
      refine lv_goto (tgt := 45) E.1 E.2.1 dX9_joins_41 (by decide) ?_
      exact x_zrc E h (by decide) hf dX9_joins_45
    · refine lv_aload_n E.1 E.2.1 dX9_joins_20 rfl (lv_at hl 0 rfl) ?_
      refine lv_iload_n E.1 E.2.1 dX9_joins_21 rfl (lv_at hl 1 rfl) ?_
      refine lv_iconst (v := 0) E.1 E.2.1 dX9_joins_22 (by decide) ?_
      refine x_callp E h hl 0 hf (fun r0 hr => c_X9_gutter l D cy s00 _ S p0 0 r0 hr) m_X9_gutter rfl rfl kw1457 rfl rfl (Nat.le_of_ble_eq_true rfl) ⟨by decide, by decide⟩ ⟨Nat.zero_le _, Nat.zero_le _⟩ dX9_joins_23 (fun v5 H locs hf h => ?_)
      refine lv_iload_n E.1 E.2.1 dX9_joins_26 rfl (lv_at hl 3 rfl) ?_
      refine x_brn hf (lv_icmp_ne (tgt := 44) E.1 E.2.1 dX9_joins_27 (by decide)) (fun hf => ?_) (fun hf => ?_)
      · refine lv_iconst (v := 0) E.1 E.2.1 dX9_joins_44 (by decide) ?_
        exact x_zrc E h (by decide) hf dX9_joins_45
      · refine lv_aload_n E.1 E.2.1 dX9_joins_30 rfl (lv_at hl 0 rfl) ?_
        refine lv_iload_n E.1 E.2.1 dX9_joins_31 rfl (lv_at hl 1 rfl) ?_
        refine lv_iconst (v := 1) E.1 E.2.1 dX9_joins_32 (by decide) ?_
        refine x_callp E h hl 0 hf (fun r0 hr => c_X9_gutter l D cy s00 _ S p0 1 r0 hr) m_X9_gutter rfl rfl kw1457 rfl rfl (Nat.le_of_ble_eq_true rfl) ⟨by decide, by decide⟩ ⟨Nat.zero_le _, Nat.zero_le _⟩ dX9_joins_33 (fun v6 H locs hf h => ?_)
        refine lv_iload_n E.1 E.2.1 dX9_joins_36 rfl (lv_at hl 2 rfl) ?_
        refine x_brn hf (lv_icmp_ne (tgt := 44) E.1 E.2.1 dX9_joins_37 (by decide)) (fun hf => ?_) (fun hf => ?_)
        · refine lv_iconst (v := 0) E.1 E.2.1 dX9_joins_44 (by decide) ?_
          exact x_zrc E h (by decide) hf dX9_joins_45
        · refine lv_iconst (v := 1) E.1 E.2.1 dX9_joins_40 (by decide) ?_
          refine lv_goto (tgt := 45) E.1 E.2.1 dX9_joins_41 (by decide) ?_
          exact x_zrc E h (by decide) hf dX9_joins_45
set_option maxHeartbeats 4000000 in
set_option maxRecDepth 100000 in
theorem w_X9_widestBetween_L5 {p : Program} {l : Launch} {e : Env} {s : State} {m : MethodId} {args : Array Value} {below : List Frame} {meth : Method} {c : Code} {D : va_G} {cy : Nat → ClassId} {s00 : State} {ad : Nat → Nat} {A : Nat → Prop}  {r9 : Int32} {u1 : Int32} {u2 : Int32} {S : XS} {K : Int32 → Int32 → Option (Int32)} (E : XE p s m args meth c cX9_widestBetween 5 RX9 (some .int) D cy s00) (hk : ∀ (m3 m4 : Int32) (H : Heap) (locs : List Loc) (ls : Array Slot), K m3 m4 = some r9 → XH D cy s00 shMod ad S A s H locs → lv_has ls 5 [(0, .ref (ad 0)), (1, .int u1), (2, .int u2), (3, .int m3), (4, .int m4)] → W p l e (xrm 2) s m args below meth c H locs 0 0 (MQ below (xqi D cy shMod ad r9 S A) args s 0 0 A) (F0 m 49 ls [])) :
    ∀ (n : Nat) (m3 m4 : Int32) (H : Heap) (locs : List Loc) (ls : Array Slot), f_X9_widestBetween_L5 K S u1 u2 n m3 m4 = some r9 → XH D cy s00 shMod ad S A s H locs → lv_has ls 5 [(0, .ref (ad 0)), (1, .int u1), (2, .int u2), (3, .int m3), (4, .int m4)] → W p l e (xrm 2) s m args below meth c H locs 0 0 (MQ below (xqi D cy shMod ad r9 S A) args s 0 0 A) (F0 m 5 ls []) := by
  intro n
  induction n with
  | zero => intro m3 m4 H locs ls hf; cases hf
  | succ n ih =>
    intro m3 m4 H locs ls hf h hl
    rw [f_X9_widestBetween_L5] at hf
    refine lv_iload E.1 E.2.1 dX9_widestBetween_5 (lv_at hl 4 rfl) ?_
    refine lv_aload_n E.1 E.2.1 dX9_widestBetween_7 rfl (lv_at hl 0 rfl) ?_
    refine x_getr E h 0 0 1 rfl rfl rfl (by decide) xinX9 kw1610 dX9_widestBetween_8 ?_
    refine lv_iconst (v := 1) E.1 E.2.1 dX9_widestBetween_11 (by decide) ?_
    refine x_iald E h 1 hf rfl dX9_widestBetween_12 (fun v1 hf => ?_)
    refine x_br hf (lv_icmp_ge (tgt := 49) E.1 E.2.1 dX9_widestBetween_13 (by decide)) (fun hf => ?_) (fun hf => ?_)
    · exact hk _ _ _ _ _ hf h (lv_sub hl [0, 1, 2, 3, 4] rfl)
    · refine lv_aload_n E.1 E.2.1 dX9_widestBetween_16 rfl (lv_at hl 0 rfl) ?_
      refine lv_iload E.1 E.2.1 dX9_widestBetween_17 (lv_at hl 4 rfl) ?_
      refine lv_iload_n E.1 E.2.1 dX9_widestBetween_19 rfl (lv_at hl 1 rfl) ?_
      refine lv_iload_n E.1 E.2.1 dX9_widestBetween_20 rfl (lv_at hl 2 rfl) ?_
      refine x_callp E h hl 0 hf (fun r0 hr => c_X9_joins l D cy s00 _ S m4 u1 u2 r0 hr) m_X9_joins rfl rfl kw1514 rfl rfl (Nat.le_of_ble_eq_true rfl) ⟨by decide, by decide⟩ ⟨Nat.zero_le _, Nat.zero_le _⟩ dX9_widestBetween_21 (fun v2 H locs hf h => ?_)
      refine x_br hf (lv_if_eq (tgt := 41) E.1 E.2.1 dX9_widestBetween_24 (by decide)) (fun hf => ?_) (fun hf => ?_)
      · refine lv_iload_n E.1 E.2.1 dX9_widestBetween_41 rfl (lv_at hl 3 rfl) ?_
        refine lv_istore_n (lv' := [(3, .int m3), (0, .ref (ad 0)), (1, .int u1), (2, .int u2), (4, .int m4)]) E.1 E.2.1 dX9_widestBetween_42 rfl hl (by decide) rfl (fun ls hl => ?_)
        refine x_nv hf (fun v3 e9 hf => ?_)
        refine lv_iinc (v := v3) (lv' := [(4, .int v3), (3, .int m3), (0, .ref (ad 0)), (1, .int u1), (2, .int u2)]) E.1 E.2.1 dX9_widestBetween_43 hl (k := 4) rfl (by rw [e9]; rfl) (by decide) rfl (fun ls hl => ?_)
        refine lv_goto (tgt := 5) E.1 E.2.1 dX9_widestBetween_46 (by decide) ?_
        exact ih _ _ _ _ _ hf h (lv_sub hl [2, 3, 4, 1, 0] rfl)
      · refine lv_iload_n E.1 E.2.1 dX9_widestBetween_27 rfl (lv_at hl 3 rfl) ?_
        refine lv_aload_n E.1 E.2.1 dX9_widestBetween_28 rfl (lv_at hl 0 rfl) ?_
        refine lv_iload E.1 E.2.1 dX9_widestBetween_29 (lv_at hl 4 rfl) ?_
        refine lv_iconst (v := 2) E.1 E.2.1 dX9_widestBetween_31 (by decide) ?_
        refine x_callp E h hl 0 hf (fun r0 hr => c_X9_gutter l D cy s00 _ S m4 2 r0 hr) m_X9_gutter rfl rfl kw1457 rfl rfl (Nat.le_of_ble_eq_true rfl) ⟨by decide, by decide⟩ ⟨Nat.zero_le _, Nat.zero_le _⟩ dX9_widestBetween_32 (fun v4 H locs hf h => ?_)
        refine va_mmax E.1 E.2.1 (E.2.2.1.trans hl.1.symm) E.2.2.2.1 (E.2.2.2.2.1 _ kw1473) (E.2.2.2.2.1 _ kw421) (E.2.2.2.2.1 _ kw124) (E.2.2.2.2.1 _ kw422) (by decide) (Nat.le_of_ble_eq_true rfl) (Nat.zero_le _) (Nat.zero_le _) dX9_widestBetween_35 ?_
        refine lv_goto (tgt := 42) E.1 E.2.1 dX9_widestBetween_38 (by decide) ?_
        refine x_nm hf (fun v5 hf => ?_)
        refine lv_istore_n (lv' := [(3, .int v5), (0, .ref (ad 0)), (1, .int u1), (2, .int u2), (4, .int m4)]) E.1 E.2.1 dX9_widestBetween_42 rfl hl (by decide) rfl (fun ls hl => ?_)
        refine x_nv hf (fun v6 e9 hf => ?_)
        refine lv_iinc (v := v6) (lv' := [(4, .int v6), (3, .int v5), (0, .ref (ad 0)), (1, .int u1), (2, .int u2)]) E.1 E.2.1 dX9_widestBetween_43 hl (k := 4) rfl (by rw [e9]; rfl) (by decide) rfl (fun ls hl => ?_)
        refine lv_goto (tgt := 5) E.1 E.2.1 dX9_widestBetween_46 (by decide) ?_
        exact ih _ _ _ _ _ hf h (lv_sub hl [2, 3, 4, 1, 0] rfl)
set_option maxHeartbeats 4000000 in
set_option maxRecDepth 100000 in
theorem c_X9_widestBetween (l : Launch) (D : va_G) (cy : Nat → ClassId) (s00 : State) (ad : Nat → Nat) (S : XS) (p0 p1 : Int32) (r9 : Int32) (hf : f_X9_widestBetween S p0 p1 = some r9) : XI l yX9_widestBetween cX9_widestBetween 5 (some .int) 2 D cy s00 shMod ad S [.ref (ad 0), .int p0, .int p1] r9 S := by
  refine XI.of (by decide) [(0, .ref (ad 0)), (1, .int p0), (2, .int p1)] rfl (Nat.le_of_ble_eq_true rfl) (fun p e s m args below meth c A ls E h hl => ?_)
  unfold f_X9_widestBetween at hf
  refine lv_iconst (v := 0) E.1 E.2.1 dX9_widestBetween_0 (by decide) ?_
  refine lv_istore_n (lv' := [(3, .int 0), (0, .ref (ad 0)), (1, .int p0), (2, .int p1)]) E.1 E.2.1 dX9_widestBetween_1 rfl hl (by decide) rfl (fun ls hl => ?_)
  refine lv_iconst (v := 0) E.1 E.2.1 dX9_widestBetween_2 (by decide) ?_
  refine lv_istore (lv' := [(4, .int 0), (3, .int 0), (0, .ref (ad 0)), (1, .int p0), (2, .int p1)]) E.1 E.2.1 dX9_widestBetween_3 hl (by decide) rfl (fun ls hl => ?_)
  refine w_X9_widestBetween_L5 E ?_ _ _ _ _ _ _ hf h (lv_sub hl [2, 3, 4, 1, 0] rfl)
  intro v7 v8 H locs ls hf h hl
  refine lv_iload_n E.1 E.2.1 dX9_widestBetween_49 rfl (lv_at hl 3 rfl) ?_
  exact x_irp E h hf dX9_widestBetween_50
set_option maxHeartbeats 4000000 in
set_option maxRecDepth 100000 in
theorem c_X9_isHome (l : Launch) (D : va_G) (cy : Nat → ClassId) (s00 : State) (ad : Nat → Nat) (S : XS) (p0 : Int32) (r9 : Int32) (hf : f_X9_isHome S p0 = some r9) : XI l yX9_isHome cX9_isHome 2 (some .boolean) 1 D cy s00 shMod ad S [.ref (ad 0), .int p0] r9 S := by
  refine XI.of (by decide) [(0, .ref (ad 0)), (1, .int p0)] rfl (Nat.le_of_ble_eq_true rfl) (fun p e s m args below meth c A ls E h hl => ?_)
  unfold f_X9_isHome at hf
  refine lv_aload_n E.1 E.2.1 dX9_isHome_0 rfl (lv_at hl 0 rfl) ?_
  refine lv_aload_n E.1 E.2.1 dX9_isHome_1 rfl (lv_at hl 0 rfl) ?_
  refine lv_iload_n E.1 E.2.1 dX9_isHome_2 rfl (lv_at hl 1 rfl) ?_
  refine lv_iconst (v := 3) E.1 E.2.1 dX9_isHome_3 (by decide) ?_
  refine x_callp E h hl 0 hf (fun r0 hr => c_X9_of l D cy s00 _ S p0 3 r0 hr) m_X9_of rfl rfl kw1429 rfl rfl (Nat.le_of_ble_eq_true rfl) ⟨by decide, by decide⟩ ⟨Nat.zero_le _, Nat.zero_le _⟩ dX9_isHome_4 (fun v1 H locs hf h => ?_)
  refine x_callp E h hl 0 hf (fun r0 hr => c_X9_owner l D cy s00 _ S v1 r0 hr) m_X9_owner rfl rfl kw1465 rfl rfl (Nat.le_of_ble_eq_true rfl) ⟨by decide, by decide⟩ ⟨Nat.zero_le _, Nat.zero_le _⟩ dX9_isHome_7 (fun v2 H locs hf h => ?_)
  refine lv_iload_n E.1 E.2.1 dX9_isHome_10 rfl (lv_at hl 1 rfl) ?_
  refine x_brn hf (lv_icmp_ne (tgt := 18) E.1 E.2.1 dX9_isHome_11 (by decide)) (fun hf => ?_) (fun hf => ?_)
  · refine lv_iconst (v := 0) E.1 E.2.1 dX9_isHome_18 (by decide) ?_
    exact x_zrc E h (by decide) hf dX9_isHome_19
  · refine lv_iconst (v := 1) E.1 E.2.1 dX9_isHome_14 (by decide) ?_
    refine lv_goto (tgt := 19) E.1 E.2.1 dX9_isHome_15 (by decide) ?_
    exact x_zrc E h (by decide) hf dX9_isHome_19
set_option maxHeartbeats 4000000 in
set_option maxRecDepth 100000 in
theorem c_X9_powerOf (l : Launch) (D : va_G) (cy : Nat → ClassId) (s00 : State) (ad : Nat → Nat) (S : XS) (p0 : Int32) (r9 : Int32) (hf : f_X9_powerOf S p0 = some r9) : XI l yX9_powerOf cX9_powerOf 2 (some .int) 2 D cy s00 shMod ad S [.ref (ad 0), .int p0] r9 S := by
  refine XI.of (by decide) [(0, .ref (ad 0)), (1, .int p0)] rfl (Nat.le_of_ble_eq_true rfl) (fun p e s m args below meth c A ls E h hl => ?_)
  unfold f_X9_powerOf at hf
  refine lv_aload_n E.1 E.2.1 dX9_powerOf_0 rfl (lv_at hl 0 rfl) ?_
  refine lv_iload_n E.1 E.2.1 dX9_powerOf_1 rfl (lv_at hl 1 rfl) ?_
  refine lv_iconst (v := 1) E.1 E.2.1 dX9_powerOf_2 (by decide) ?_
  refine x_callp E h hl 0 hf (fun r0 hr => c_X9_of l D cy s00 _ S p0 1 r0 hr) m_X9_of rfl rfl kw1429 rfl rfl (Nat.le_of_ble_eq_true rfl) ⟨by decide, by decide⟩ ⟨Nat.zero_le _, Nat.zero_le _⟩ dX9_powerOf_3 (fun v1 H locs hf h => ?_)
  refine lv_aload_n E.1 E.2.1 dX9_powerOf_6 rfl (lv_at hl 0 rfl) ?_
  refine lv_iload_n E.1 E.2.1 dX9_powerOf_7 rfl (lv_at hl 1 rfl) ?_
  refine x_callp E h hl 0 hf (fun r0 hr => c_X9_isHome l D cy s00 _ S p0 r0 hr) m_X9_isHome rfl rfl kw1522 rfl rfl (Nat.le_of_ble_eq_true rfl) ⟨by decide, by decide⟩ ⟨Nat.zero_le _, Nat.zero_le _⟩ dX9_powerOf_8 (fun v2 H locs hf h => ?_)
  refine x_br hf (lv_if_eq (tgt := 18) E.1 E.2.1 dX9_powerOf_11 (by decide)) (fun hf => ?_) (fun hf => ?_)
  · refine lv_iconst (v := 0) E.1 E.2.1 dX9_powerOf_18 (by decide) ?_
    refine lv_iadd E.1 E.2.1 dX9_powerOf_19 ?_
    exact x_irp E h hf dX9_powerOf_20
  · refine lv_iconst (v := 2) E.1 E.2.1 dX9_powerOf_14 (by decide) ?_
    refine lv_goto (tgt := 19) E.1 E.2.1 dX9_powerOf_15 (by decide) ?_
    refine lv_iadd E.1 E.2.1 dX9_powerOf_19 ?_
    exact x_irp E h hf dX9_powerOf_20
set_option maxHeartbeats 4000000 in
set_option maxRecDepth 100000 in
theorem c_X9_whySpares (l : Launch) (D : va_G) (cy : Nat → ClassId) (s00 : State) (ad : Nat → Nat) (S : XS) (p0 p1 : Int32) (r9 : Int32) (hf : f_X9_whySpares S p0 p1 = some r9) : XI l yX9_whySpares cX9_whySpares 3 (some .int) 3 D cy s00 shMod ad S [.ref (ad 0), .int p0, .int p1] r9 S := by
  refine XI.of (by decide) [(0, .ref (ad 0)), (1, .int p0), (2, .int p1)] rfl (Nat.le_of_ble_eq_true rfl) (fun p e s m args below meth c A ls E h hl => ?_)
  unfold f_X9_whySpares at hf
  refine lv_aload_n E.1 E.2.1 dX9_whySpares_0 rfl (lv_at hl 0 rfl) ?_
  refine lv_aload_n E.1 E.2.1 dX9_whySpares_1 rfl (lv_at hl 0 rfl) ?_
  refine lv_iload_n E.1 E.2.1 dX9_whySpares_2 rfl (lv_at hl 1 rfl) ?_
  refine lv_iconst (v := 3) E.1 E.2.1 dX9_whySpares_3 (by decide) ?_
  refine x_callp E h hl 0 hf (fun r0 hr => c_X9_of l D cy s00 _ S p0 3 r0 hr) m_X9_of rfl rfl kw1429 rfl rfl (Nat.le_of_ble_eq_true rfl) ⟨by decide, by decide⟩ ⟨Nat.zero_le _, Nat.zero_le _⟩ dX9_whySpares_4 (fun v1 H locs hf h => ?_)
  refine lv_aload_n E.1 E.2.1 dX9_whySpares_7 rfl (lv_at hl 0 rfl) ?_
  refine lv_iload_n E.1 E.2.1 dX9_whySpares_8 rfl (lv_at hl 2 rfl) ?_
  refine lv_iconst (v := 3) E.1 E.2.1 dX9_whySpares_9 (by decide) ?_
  refine x_callp E h hl 0 hf (fun r0 hr => c_X9_of l D cy s00 _ S p1 3 r0 hr) m_X9_of rfl rfl kw1429 rfl rfl (Nat.le_of_ble_eq_true rfl) ⟨by decide, by decide⟩ ⟨Nat.zero_le _, Nat.zero_le _⟩ dX9_whySpares_10 (fun v2 H locs hf h => ?_)
  refine x_callp E h hl 0 hf (fun r0 hr => c_X9_widestBetween l D cy s00 _ S v1 v2 r0 hr) m_X9_widestBetween rfl rfl kw1510 rfl rfl (Nat.le_of_ble_eq_true rfl) ⟨by decide, by decide⟩ ⟨Nat.zero_le _, Nat.zero_le _⟩ dX9_whySpares_13 (fun v3 H locs hf h => ?_)
  refine lv_aload_n E.1 E.2.1 dX9_whySpares_16 rfl (lv_at hl 0 rfl) ?_
  refine lv_iload_n E.1 E.2.1 dX9_whySpares_17 rfl (lv_at hl 1 rfl) ?_
  refine lv_iconst (v := 0) E.1 E.2.1 dX9_whySpares_18 (by decide) ?_
  refine x_callp E h hl 0 hf (fun r0 hr => c_X9_of l D cy s00 _ S p0 0 r0 hr) m_X9_of rfl rfl kw1429 rfl rfl (Nat.le_of_ble_eq_true rfl) ⟨by decide, by decide⟩ ⟨Nat.zero_le _, Nat.zero_le _⟩ dX9_whySpares_19 (fun v4 H locs hf h => ?_)
  refine x_br hf (lv_icmp_ge (tgt := 28) E.1 E.2.1 dX9_whySpares_22 (by decide)) (fun hf => ?_) (fun hf => ?_)
  · refine lv_aload_n E.1 E.2.1 dX9_whySpares_28 rfl (lv_at hl 0 rfl) ?_
    refine lv_iload_n E.1 E.2.1 dX9_whySpares_29 rfl (lv_at hl 1 rfl) ?_
    refine lv_iload_n E.1 E.2.1 dX9_whySpares_30 rfl (lv_at hl 2 rfl) ?_
    refine x_callp E h hl 0 hf (fun r0 hr => c_X9_truceLeft l D cy s00 _ S p0 p1 r0 hr) m_X9_truceLeft rfl rfl kw1469 rfl rfl (Nat.le_of_ble_eq_true rfl) ⟨by decide, by decide⟩ ⟨Nat.zero_le _, Nat.zero_le _⟩ dX9_whySpares_31 (fun v5 H locs hf h => ?_)
    refine x_br hf (lv_if_le (tgt := 40) E.1 E.2.1 dX9_whySpares_34 (by decide)) (fun hf => ?_) (fun hf => ?_)
    · refine lv_aload_n E.1 E.2.1 dX9_whySpares_40 rfl (lv_at hl 0 rfl) ?_
      refine lv_iload_n E.1 E.2.1 dX9_whySpares_41 rfl (lv_at hl 1 rfl) ?_
      refine x_callp E h hl 0 hf (fun r0 hr => c_X9_powerOf l D cy s00 _ S p0 r0 hr) m_X9_powerOf rfl rfl kw1518 rfl rfl (Nat.le_of_ble_eq_true rfl) ⟨by decide, by decide⟩ ⟨Nat.zero_le _, Nat.zero_le _⟩ dX9_whySpares_42 (fun v6 H locs hf h => ?_)
      refine lv_aload_n E.1 E.2.1 dX9_whySpares_45 rfl (lv_at hl 0 rfl) ?_
      refine lv_iload_n E.1 E.2.1 dX9_whySpares_46 rfl (lv_at hl 2 rfl) ?_
      refine x_callp E h hl 0 hf (fun r0 hr => c_X9_powerOf l D cy s00 _ S p1 r0 hr) m_X9_powerOf rfl rfl kw1518 rfl rfl (Nat.le_of_ble_eq_true rfl) ⟨by decide, by decide⟩ ⟨Nat.zero_le _, Nat.zero_le _⟩ dX9_whySpares_47 (fun v7 H locs hf h => ?_)
      refine x_br hf (lv_icmp_gt (tgt := 58) E.1 E.2.1 dX9_whySpares_50 (by decide)) (fun hf => ?_) (fun hf => ?_)
      · refine lv_iconst (v := 0) E.1 E.2.1 dX9_whySpares_58 (by decide) ?_
        exact x_irp E h hf dX9_whySpares_59
      · refine lv_bipush (v := 9) E.1 E.2.1 dX9_whySpares_53 (by decide) ?_
        refine lv_goto (tgt := 59) E.1 E.2.1 dX9_whySpares_55 (by decide) ?_
        exact x_irp E h hf dX9_whySpares_59
    · refine lv_bipush (v := 8) E.1 E.2.1 dX9_whySpares_37 (by decide) ?_
      exact x_irp E h hf dX9_whySpares_39
  · refine lv_bipush (v := 7) E.1 E.2.1 dX9_whySpares_25 (by decide) ?_
    exact x_irp E h hf dX9_whySpares_27
set_option maxHeartbeats 4000000 in
set_option maxRecDepth 100000 in
theorem c_X9_chases (l : Launch) (D : va_G) (cy : Nat → ClassId) (s00 : State) (ad : Nat → Nat) (S : XS) (p0 p1 : Int32) (r9 : Int32) (S9 : XS) (hf : f_X9_chases S p0 p1 = some (r9, S9)) : XI l yX9_chases cX9_chases 5 (some .boolean) 2 D cy s00 shMod ad S [.ref (ad 0), .int p0, .int p1] r9 S9 := by
  refine XI.of (by decide) [(0, .ref (ad 0)), (1, .int p0), (2, .int p1)] rfl (Nat.le_of_ble_eq_true rfl) (fun p e s m args below meth c A ls E h hl => ?_)
  unfold f_X9_chases at hf
  refine lv_aload_n E.1 E.2.1 dX9_chases_0 rfl (lv_at hl 0 rfl) ?_
  refine lv_iload_n E.1 E.2.1 dX9_chases_1 rfl (lv_at hl 1 rfl) ?_
  refine lv_iconst (v := 3) E.1 E.2.1 dX9_chases_2 (by decide) ?_
  refine x_callp E h hl 0 hf (fun r0 hr => c_X9_of l D cy s00 _ S p0 3 r0 hr) m_X9_of rfl rfl kw1429 rfl rfl (Nat.le_of_ble_eq_true rfl) ⟨by decide, by decide⟩ ⟨Nat.zero_le _, Nat.zero_le _⟩ dX9_chases_3 (fun v1 H locs hf h => ?_)
  refine lv_istore_n (lv' := [(3, .int v1), (0, .ref (ad 0)), (1, .int p0), (2, .int p1)]) E.1 E.2.1 dX9_chases_6 rfl hl (by decide) rfl (fun ls hl => ?_)
  refine lv_aload_n E.1 E.2.1 dX9_chases_7 rfl (lv_at hl 1 rfl) ?_
  refine lv_iload_n E.1 E.2.1 dX9_chases_8 rfl (lv_at hl 3 rfl) ?_
  refine lv_iconst (v := 3) E.1 E.2.1 dX9_chases_9 (by decide) ?_
  refine x_callp E h hl 0 hf (fun r0 hr => c_X9_of l D cy s00 _ S p1 3 r0 hr) m_X9_of rfl rfl kw1429 rfl rfl (Nat.le_of_ble_eq_true rfl) ⟨by decide, by decide⟩ ⟨Nat.zero_le _, Nat.zero_le _⟩ dX9_chases_10 (fun v2 H locs hf h => ?_)
  refine lv_istore (lv' := [(4, .int v2), (3, .int v1), (0, .ref (ad 0)), (1, .int p0), (2, .int p1)]) E.1 E.2.1 dX9_chases_13 hl (by decide) rfl (fun ls hl => ?_)
  refine lv_aload_n E.1 E.2.1 dX9_chases_15 rfl (lv_at hl 2 rfl) ?_
  refine lv_iload E.1 E.2.1 dX9_chases_16 (lv_at hl 0 rfl) ?_
  refine x_callp E h hl 0 hf (fun r0 hr => c_X9_owner l D cy s00 _ S v2 r0 hr) m_X9_owner rfl rfl kw1465 rfl rfl (Nat.le_of_ble_eq_true rfl) ⟨by decide, by decide⟩ ⟨Nat.zero_le _, Nat.zero_le _⟩ dX9_chases_18 (fun v3 H locs hf h => ?_)
  refine lv_iload_n E.1 E.2.1 dX9_chases_21 rfl (lv_at hl 4 rfl) ?_
  refine x_brn hf (lv_icmp_ne (tgt := 49) E.1 E.2.1 dX9_chases_22 (by decide)) (fun hf => ?_) (fun hf => ?_)
  · refine lv_aload_n E.1 E.2.1 dX9_chases_49 rfl (lv_at hl 2 rfl) ?_
    refine lv_iload_n E.1 E.2.1 dX9_chases_50 rfl (lv_at hl 3 rfl) ?_
    refine lv_iconst (v := 3) E.1 E.2.1 dX9_chases_51 (by decide) ?_
    refine lv_iload E.1 E.2.1 dX9_chases_52 (lv_at hl 0 rfl) ?_
    refine x_callv E h hl 0 hf (fun r0 hr => c_X9_to l D cy s00 _ S p0 3 v2 r0 hr) m_X9_to rfl rfl kw1437 rfl rfl (Nat.le_of_ble_eq_true rfl) ⟨by decide, by decide⟩ ⟨Nat.zero_le _, Nat.zero_le _⟩ dX9_chases_54 (fun S4 H locs hf h => ?_)
    refine lv_aload_n E.1 E.2.1 dX9_chases_57 rfl (lv_at hl 2 rfl) ?_
    refine lv_iload_n E.1 E.2.1 dX9_chases_58 rfl (lv_at hl 4 rfl) ?_
    refine lv_iconst (v := 3) E.1 E.2.1 dX9_chases_59 (by decide) ?_
    refine lv_iload_n E.1 E.2.1 dX9_chases_60 rfl (lv_at hl 1 rfl) ?_
    refine x_callv E h hl 0 hf (fun r0 hr => c_X9_to l D cy s00 _ S4 p1 3 v1 r0 hr) m_X9_to rfl rfl kw1437 rfl rfl (Nat.le_of_ble_eq_true rfl) ⟨by decide, by decide⟩ ⟨Nat.zero_le _, Nat.zero_le _⟩ dX9_chases_61 (fun S5 H locs hf h => ?_)
    refine lv_aload_n E.1 E.2.1 dX9_chases_64 rfl (lv_at hl 2 rfl) ?_
    refine lv_iload_n E.1 E.2.1 dX9_chases_65 rfl (lv_at hl 4 rfl) ?_
    refine lv_iconst (v := 2) E.1 E.2.1 dX9_chases_66 (by decide) ?_
    refine x_callp E h hl 0 hf (fun r0 hr => c_X9_of l D cy s00 _ S5 p1 2 r0 hr) m_X9_of rfl rfl kw1429 rfl rfl (Nat.le_of_ble_eq_true rfl) ⟨by decide, by decide⟩ ⟨Nat.zero_le _, Nat.zero_le _⟩ dX9_chases_67 (fun v6 H locs hf h => ?_)
    refine x_br hf (lv_if_le (tgt := 112) E.1 E.2.1 dX9_chases_70 (by decide)) (fun hf => ?_) (fun hf => ?_)
    · refine lv_aload_n E.1 E.2.1 dX9_chases_112 rfl (lv_at hl 2 rfl) ?_
      refine lv_iload E.1 E.2.1 dX9_chases_113 (lv_at hl 0 rfl) ?_
      refine x_callp E h hl 0 hf (fun r0 hr => c_X9_owner l D cy s00 _ S5 v2 r0 hr) m_X9_owner rfl rfl kw1465 rfl rfl (Nat.le_of_ble_eq_true rfl) ⟨by decide, by decide⟩ ⟨Nat.zero_le _, Nat.zero_le _⟩ dX9_chases_115 (fun v7 H locs hf h => ?_)
      refine lv_iload_n E.1 E.2.1 dX9_chases_118 rfl (lv_at hl 3 rfl) ?_
      refine x_brn hf (lv_icmp_ne (tgt := 126) E.1 E.2.1 dX9_chases_119 (by decide)) (fun hf => ?_) (fun hf => ?_)
      · refine lv_iconst (v := 0) E.1 E.2.1 dX9_chases_126 (by decide) ?_
        exact x_zic E h (by decide) hf dX9_chases_127
      · refine lv_iconst (v := 1) E.1 E.2.1 dX9_chases_122 (by decide) ?_
        refine lv_goto (tgt := 127) E.1 E.2.1 dX9_chases_123 (by decide) ?_
        exact x_zic E h (by decide) hf dX9_chases_127
    · refine lv_aload_n E.1 E.2.1 dX9_chases_73 rfl (lv_at hl 2 rfl) ?_
      refine lv_iload_n E.1 E.2.1 dX9_chases_74 rfl (lv_at hl 3 rfl) ?_
      refine lv_iconst (v := 2) E.1 E.2.1 dX9_chases_75 (by decide) ?_
      refine x_callp E h hl 0 hf (fun r0 hr => c_X9_of l D cy s00 _ S5 p0 2 r0 hr) m_X9_of rfl rfl kw1429 rfl rfl (Nat.le_of_ble_eq_true rfl) ⟨by decide, by decide⟩ ⟨Nat.zero_le _, Nat.zero_le _⟩ dX9_chases_76 (fun v8 H locs hf h => ?_)
      refine lv_bipush (v := 99) E.1 E.2.1 dX9_chases_79 (by decide) ?_
      refine x_br hf (lv_icmp_ge (tgt := 112) E.1 E.2.1 dX9_chases_81 (by decide)) (fun hf => ?_) (fun hf => ?_)
      · refine lv_aload_n E.1 E.2.1 dX9_chases_112 rfl (lv_at hl 2 rfl) ?_
        refine lv_iload E.1 E.2.1 dX9_chases_113 (lv_at hl 0 rfl) ?_
        refine x_callp E h hl 0 hf (fun r0 hr => c_X9_owner l D cy s00 _ S5 v2 r0 hr) m_X9_owner rfl rfl kw1465 rfl rfl (Nat.le_of_ble_eq_true rfl) ⟨by decide, by decide⟩ ⟨Nat.zero_le _, Nat.zero_le _⟩ dX9_chases_115 (fun v9 H locs hf h => ?_)
        refine lv_iload_n E.1 E.2.1 dX9_chases_118 rfl (lv_at hl 3 rfl) ?_
        refine x_brn hf (lv_icmp_ne (tgt := 126) E.1 E.2.1 dX9_chases_119 (by decide)) (fun hf => ?_) (fun hf => ?_)
        · refine lv_iconst (v := 0) E.1 E.2.1 dX9_chases_126 (by decide) ?_
          exact x_zic E h (by decide) hf dX9_chases_127
        · refine lv_iconst (v := 1) E.1 E.2.1 dX9_chases_122 (by decide) ?_
          refine lv_goto (tgt := 127) E.1 E.2.1 dX9_chases_123 (by decide) ?_
          exact x_zic E h (by decide) hf dX9_chases_127
      · refine lv_aload_n E.1 E.2.1 dX9_chases_84 rfl (lv_at hl 2 rfl) ?_
        refine lv_iload_n E.1 E.2.1 dX9_chases_85 rfl (lv_at hl 4 rfl) ?_
        refine lv_iconst (v := 2) E.1 E.2.1 dX9_chases_86 (by decide) ?_
        refine lv_aload_n E.1 E.2.1 dX9_chases_87 rfl (lv_at hl 2 rfl) ?_
        refine lv_iload_n E.1 E.2.1 dX9_chases_88 rfl (lv_at hl 4 rfl) ?_
        refine lv_iconst (v := 2) E.1 E.2.1 dX9_chases_89 (by decide) ?_
        refine x_callp E h hl 0 hf (fun r0 hr => c_X9_of l D cy s00 _ S5 p1 2 r0 hr) m_X9_of rfl rfl kw1429 rfl rfl (Nat.le_of_ble_eq_true rfl) ⟨by decide, by decide⟩ ⟨Nat.zero_le _, Nat.zero_le _⟩ dX9_chases_90 (fun v10 H locs hf h => ?_)
        refine lv_iconst (v := 1) E.1 E.2.1 dX9_chases_93 (by decide) ?_
        refine lv_isub E.1 E.2.1 dX9_chases_94 ?_
        refine x_callv E h hl 0 hf (fun r0 hr => c_X9_to l D cy s00 _ S5 p1 2 (v10 - 1) r0 hr) m_X9_to rfl rfl kw1437 rfl rfl (Nat.le_of_ble_eq_true rfl) ⟨by decide, by decide⟩ ⟨Nat.zero_le _, Nat.zero_le _⟩ dX9_chases_95 (fun S11 H locs hf h => ?_)
        refine lv_aload_n E.1 E.2.1 dX9_chases_98 rfl (lv_at hl 2 rfl) ?_
        refine lv_iload_n E.1 E.2.1 dX9_chases_99 rfl (lv_at hl 3 rfl) ?_
        refine lv_iconst (v := 2) E.1 E.2.1 dX9_chases_100 (by decide) ?_
        refine lv_aload_n E.1 E.2.1 dX9_chases_101 rfl (lv_at hl 2 rfl) ?_
        refine lv_iload_n E.1 E.2.1 dX9_chases_102 rfl (lv_at hl 3 rfl) ?_
        refine lv_iconst (v := 2) E.1 E.2.1 dX9_chases_103 (by decide) ?_
        refine x_callp E h hl 0 hf (fun r0 hr => c_X9_of l D cy s00 _ S11 p0 2 r0 hr) m_X9_of rfl rfl kw1429 rfl rfl (Nat.le_of_ble_eq_true rfl) ⟨by decide, by decide⟩ ⟨Nat.zero_le _, Nat.zero_le _⟩ dX9_chases_104 (fun v12 H locs hf h => ?_)
        refine lv_iconst (v := 1) E.1 E.2.1 dX9_chases_107 (by decide) ?_
        refine lv_iadd E.1 E.2.1 dX9_chases_108 ?_
        refine x_callv E h hl 0 hf (fun r0 hr => c_X9_to l D cy s00 _ S11 p0 2 (v12 + 1) r0 hr) m_X9_to rfl rfl kw1437 rfl rfl (Nat.le_of_ble_eq_true rfl) ⟨by decide, by decide⟩ ⟨Nat.zero_le _, Nat.zero_le _⟩ dX9_chases_109 (fun S13 H locs hf h => ?_)
        refine lv_aload_n E.1 E.2.1 dX9_chases_112 rfl (lv_at hl 2 rfl) ?_
        refine lv_iload E.1 E.2.1 dX9_chases_113 (lv_at hl 0 rfl) ?_
        refine x_callp E h hl 0 hf (fun r0 hr => c_X9_owner l D cy s00 _ S13 v2 r0 hr) m_X9_owner rfl rfl kw1465 rfl rfl (Nat.le_of_ble_eq_true rfl) ⟨by decide, by decide⟩ ⟨Nat.zero_le _, Nat.zero_le _⟩ dX9_chases_115 (fun v14 H locs hf h => ?_)
        refine lv_iload_n E.1 E.2.1 dX9_chases_118 rfl (lv_at hl 3 rfl) ?_
        refine x_brn hf (lv_icmp_ne (tgt := 126) E.1 E.2.1 dX9_chases_119 (by decide)) (fun hf => ?_) (fun hf => ?_)
        · refine lv_iconst (v := 0) E.1 E.2.1 dX9_chases_126 (by decide) ?_
          exact x_zic E h (by decide) hf dX9_chases_127
        · refine lv_iconst (v := 1) E.1 E.2.1 dX9_chases_122 (by decide) ?_
          refine lv_goto (tgt := 127) E.1 E.2.1 dX9_chases_123 (by decide) ?_
          exact x_zic E h (by decide) hf dX9_chases_127
  · refine lv_aload_n E.1 E.2.1 dX9_chases_25 rfl (lv_at hl 2 rfl) ?_
    refine x_getr E h 0 0 1 rfl rfl rfl (by decide) xinX9 kw1610 dX9_chases_26 ?_
    refine lv_bipush (v := 20) E.1 E.2.1 dX9_chases_29 (by decide) ?_
    refine lv_iload E.1 E.2.1 dX9_chases_31 (lv_at hl 0 rfl) ?_
    refine lv_iadd E.1 E.2.1 dX9_chases_33 ?_
    refine lv_aload_n E.1 E.2.1 dX9_chases_34 rfl (lv_at hl 2 rfl) ?_
    refine lv_iload_n E.1 E.2.1 dX9_chases_35 rfl (lv_at hl 3 rfl) ?_
    refine x_callp E h hl 0 hf (fun r0 hr => c_X9_owns l D cy s00 _ S p0 r0 hr) m_X9_owns rfl rfl kw1486 rfl rfl (Nat.le_of_ble_eq_true rfl) ⟨by decide, by decide⟩ ⟨Nat.zero_le _, Nat.zero_le _⟩ dX9_chases_36 (fun v15 H locs hf h => ?_)
    refine lv_iconst (v := 4) E.1 E.2.1 dX9_chases_39 (by decide) ?_
    refine x_br hf (lv_icmp_ge (tgt := 47) E.1 E.2.1 dX9_chases_40 (by decide)) (fun hf => ?_) (fun hf => ?_)
    · refine lv_iconst (v := (-1)) E.1 E.2.1 dX9_chases_47 (by decide) ?_
      refine x_iast E h 1 hf rfl dX9_chases_48 (fun S16 H locs hf h => ?_)
      refine lv_aload_n E.1 E.2.1 dX9_chases_49 rfl (lv_at hl 2 rfl) ?_
      refine lv_iload_n E.1 E.2.1 dX9_chases_50 rfl (lv_at hl 3 rfl) ?_
      refine lv_iconst (v := 3) E.1 E.2.1 dX9_chases_51 (by decide) ?_
      refine lv_iload E.1 E.2.1 dX9_chases_52 (lv_at hl 0 rfl) ?_
      refine x_callv E h hl 0 hf (fun r0 hr => c_X9_to l D cy s00 _ S16 p0 3 v2 r0 hr) m_X9_to rfl rfl kw1437 rfl rfl (Nat.le_of_ble_eq_true rfl) ⟨by decide, by decide⟩ ⟨Nat.zero_le _, Nat.zero_le _⟩ dX9_chases_54 (fun S18 H locs hf h => ?_)
      refine lv_aload_n E.1 E.2.1 dX9_chases_57 rfl (lv_at hl 2 rfl) ?_
      refine lv_iload_n E.1 E.2.1 dX9_chases_58 rfl (lv_at hl 4 rfl) ?_
      refine lv_iconst (v := 3) E.1 E.2.1 dX9_chases_59 (by decide) ?_
      refine lv_iload_n E.1 E.2.1 dX9_chases_60 rfl (lv_at hl 1 rfl) ?_
      refine x_callv E h hl 0 hf (fun r0 hr => c_X9_to l D cy s00 _ S18 p1 3 v1 r0 hr) m_X9_to rfl rfl kw1437 rfl rfl (Nat.le_of_ble_eq_true rfl) ⟨by decide, by decide⟩ ⟨Nat.zero_le _, Nat.zero_le _⟩ dX9_chases_61 (fun S19 H locs hf h => ?_)
      refine lv_aload_n E.1 E.2.1 dX9_chases_64 rfl (lv_at hl 2 rfl) ?_
      refine lv_iload_n E.1 E.2.1 dX9_chases_65 rfl (lv_at hl 4 rfl) ?_
      refine lv_iconst (v := 2) E.1 E.2.1 dX9_chases_66 (by decide) ?_
      refine x_callp E h hl 0 hf (fun r0 hr => c_X9_of l D cy s00 _ S19 p1 2 r0 hr) m_X9_of rfl rfl kw1429 rfl rfl (Nat.le_of_ble_eq_true rfl) ⟨by decide, by decide⟩ ⟨Nat.zero_le _, Nat.zero_le _⟩ dX9_chases_67 (fun v20 H locs hf h => ?_)
      refine x_br hf (lv_if_le (tgt := 112) E.1 E.2.1 dX9_chases_70 (by decide)) (fun hf => ?_) (fun hf => ?_)
      · refine lv_aload_n E.1 E.2.1 dX9_chases_112 rfl (lv_at hl 2 rfl) ?_
        refine lv_iload E.1 E.2.1 dX9_chases_113 (lv_at hl 0 rfl) ?_
        refine x_callp E h hl 0 hf (fun r0 hr => c_X9_owner l D cy s00 _ S19 v2 r0 hr) m_X9_owner rfl rfl kw1465 rfl rfl (Nat.le_of_ble_eq_true rfl) ⟨by decide, by decide⟩ ⟨Nat.zero_le _, Nat.zero_le _⟩ dX9_chases_115 (fun v21 H locs hf h => ?_)
        refine lv_iload_n E.1 E.2.1 dX9_chases_118 rfl (lv_at hl 3 rfl) ?_
        refine x_brn hf (lv_icmp_ne (tgt := 126) E.1 E.2.1 dX9_chases_119 (by decide)) (fun hf => ?_) (fun hf => ?_)
        · refine lv_iconst (v := 0) E.1 E.2.1 dX9_chases_126 (by decide) ?_
          exact x_zic E h (by decide) hf dX9_chases_127
        · refine lv_iconst (v := 1) E.1 E.2.1 dX9_chases_122 (by decide) ?_
          refine lv_goto (tgt := 127) E.1 E.2.1 dX9_chases_123 (by decide) ?_
          exact x_zic E h (by decide) hf dX9_chases_127
      · refine lv_aload_n E.1 E.2.1 dX9_chases_73 rfl (lv_at hl 2 rfl) ?_
        refine lv_iload_n E.1 E.2.1 dX9_chases_74 rfl (lv_at hl 3 rfl) ?_
        refine lv_iconst (v := 2) E.1 E.2.1 dX9_chases_75 (by decide) ?_
        refine x_callp E h hl 0 hf (fun r0 hr => c_X9_of l D cy s00 _ S19 p0 2 r0 hr) m_X9_of rfl rfl kw1429 rfl rfl (Nat.le_of_ble_eq_true rfl) ⟨by decide, by decide⟩ ⟨Nat.zero_le _, Nat.zero_le _⟩ dX9_chases_76 (fun v22 H locs hf h => ?_)
        refine lv_bipush (v := 99) E.1 E.2.1 dX9_chases_79 (by decide) ?_
        refine x_br hf (lv_icmp_ge (tgt := 112) E.1 E.2.1 dX9_chases_81 (by decide)) (fun hf => ?_) (fun hf => ?_)
        · refine lv_aload_n E.1 E.2.1 dX9_chases_112 rfl (lv_at hl 2 rfl) ?_
          refine lv_iload E.1 E.2.1 dX9_chases_113 (lv_at hl 0 rfl) ?_
          refine x_callp E h hl 0 hf (fun r0 hr => c_X9_owner l D cy s00 _ S19 v2 r0 hr) m_X9_owner rfl rfl kw1465 rfl rfl (Nat.le_of_ble_eq_true rfl) ⟨by decide, by decide⟩ ⟨Nat.zero_le _, Nat.zero_le _⟩ dX9_chases_115 (fun v23 H locs hf h => ?_)
          refine lv_iload_n E.1 E.2.1 dX9_chases_118 rfl (lv_at hl 3 rfl) ?_
          refine x_brn hf (lv_icmp_ne (tgt := 126) E.1 E.2.1 dX9_chases_119 (by decide)) (fun hf => ?_) (fun hf => ?_)
          · refine lv_iconst (v := 0) E.1 E.2.1 dX9_chases_126 (by decide) ?_
            exact x_zic E h (by decide) hf dX9_chases_127
          · refine lv_iconst (v := 1) E.1 E.2.1 dX9_chases_122 (by decide) ?_
            refine lv_goto (tgt := 127) E.1 E.2.1 dX9_chases_123 (by decide) ?_
            exact x_zic E h (by decide) hf dX9_chases_127
        · refine lv_aload_n E.1 E.2.1 dX9_chases_84 rfl (lv_at hl 2 rfl) ?_
          refine lv_iload_n E.1 E.2.1 dX9_chases_85 rfl (lv_at hl 4 rfl) ?_
          refine lv_iconst (v := 2) E.1 E.2.1 dX9_chases_86 (by decide) ?_
          refine lv_aload_n E.1 E.2.1 dX9_chases_87 rfl (lv_at hl 2 rfl) ?_
          refine lv_iload_n E.1 E.2.1 dX9_chases_88 rfl (lv_at hl 4 rfl) ?_
          refine lv_iconst (v := 2) E.1 E.2.1 dX9_chases_89 (by decide) ?_
          refine x_callp E h hl 0 hf (fun r0 hr => c_X9_of l D cy s00 _ S19 p1 2 r0 hr) m_X9_of rfl rfl kw1429 rfl rfl (Nat.le_of_ble_eq_true rfl) ⟨by decide, by decide⟩ ⟨Nat.zero_le _, Nat.zero_le _⟩ dX9_chases_90 (fun v24 H locs hf h => ?_)
          refine lv_iconst (v := 1) E.1 E.2.1 dX9_chases_93 (by decide) ?_
          refine lv_isub E.1 E.2.1 dX9_chases_94 ?_
          refine x_callv E h hl 0 hf (fun r0 hr => c_X9_to l D cy s00 _ S19 p1 2 (v24 - 1) r0 hr) m_X9_to rfl rfl kw1437 rfl rfl (Nat.le_of_ble_eq_true rfl) ⟨by decide, by decide⟩ ⟨Nat.zero_le _, Nat.zero_le _⟩ dX9_chases_95 (fun S25 H locs hf h => ?_)
          refine lv_aload_n E.1 E.2.1 dX9_chases_98 rfl (lv_at hl 2 rfl) ?_
          refine lv_iload_n E.1 E.2.1 dX9_chases_99 rfl (lv_at hl 3 rfl) ?_
          refine lv_iconst (v := 2) E.1 E.2.1 dX9_chases_100 (by decide) ?_
          refine lv_aload_n E.1 E.2.1 dX9_chases_101 rfl (lv_at hl 2 rfl) ?_
          refine lv_iload_n E.1 E.2.1 dX9_chases_102 rfl (lv_at hl 3 rfl) ?_
          refine lv_iconst (v := 2) E.1 E.2.1 dX9_chases_103 (by decide) ?_
          refine x_callp E h hl 0 hf (fun r0 hr => c_X9_of l D cy s00 _ S25 p0 2 r0 hr) m_X9_of rfl rfl kw1429 rfl rfl (Nat.le_of_ble_eq_true rfl) ⟨by decide, by decide⟩ ⟨Nat.zero_le _, Nat.zero_le _⟩ dX9_chases_104 (fun v26 H locs hf h => ?_)
          refine lv_iconst (v := 1) E.1 E.2.1 dX9_chases_107 (by decide) ?_
          refine lv_iadd E.1 E.2.1 dX9_chases_108 ?_
          refine x_callv E h hl 0 hf (fun r0 hr => c_X9_to l D cy s00 _ S25 p0 2 (v26 + 1) r0 hr) m_X9_to rfl rfl kw1437 rfl rfl (Nat.le_of_ble_eq_true rfl) ⟨by decide, by decide⟩ ⟨Nat.zero_le _, Nat.zero_le _⟩ dX9_chases_109 (fun S27 H locs hf h => ?_)
          refine lv_aload_n E.1 E.2.1 dX9_chases_112 rfl (lv_at hl 2 rfl) ?_
          refine lv_iload E.1 E.2.1 dX9_chases_113 (lv_at hl 0 rfl) ?_
          refine x_callp E h hl 0 hf (fun r0 hr => c_X9_owner l D cy s00 _ S27 v2 r0 hr) m_X9_owner rfl rfl kw1465 rfl rfl (Nat.le_of_ble_eq_true rfl) ⟨by decide, by decide⟩ ⟨Nat.zero_le _, Nat.zero_le _⟩ dX9_chases_115 (fun v28 H locs hf h => ?_)
          refine lv_iload_n E.1 E.2.1 dX9_chases_118 rfl (lv_at hl 3 rfl) ?_
          refine x_brn hf (lv_icmp_ne (tgt := 126) E.1 E.2.1 dX9_chases_119 (by decide)) (fun hf => ?_) (fun hf => ?_)
          · refine lv_iconst (v := 0) E.1 E.2.1 dX9_chases_126 (by decide) ?_
            exact x_zic E h (by decide) hf dX9_chases_127
          · refine lv_iconst (v := 1) E.1 E.2.1 dX9_chases_122 (by decide) ?_
            refine lv_goto (tgt := 127) E.1 E.2.1 dX9_chases_123 (by decide) ?_
            exact x_zic E h (by decide) hf dX9_chases_127
    · refine lv_iload_n E.1 E.2.1 dX9_chases_43 rfl (lv_at hl 3 rfl) ?_
      refine lv_goto (tgt := 48) E.1 E.2.1 dX9_chases_44 (by decide) ?_
      refine x_iast E h 1 hf rfl dX9_chases_48 (fun S29 H locs hf h => ?_)
      refine lv_aload_n E.1 E.2.1 dX9_chases_49 rfl (lv_at hl 2 rfl) ?_
      refine lv_iload_n E.1 E.2.1 dX9_chases_50 rfl (lv_at hl 3 rfl) ?_
      refine lv_iconst (v := 3) E.1 E.2.1 dX9_chases_51 (by decide) ?_
      refine lv_iload E.1 E.2.1 dX9_chases_52 (lv_at hl 0 rfl) ?_
      refine x_callv E h hl 0 hf (fun r0 hr => c_X9_to l D cy s00 _ S29 p0 3 v2 r0 hr) m_X9_to rfl rfl kw1437 rfl rfl (Nat.le_of_ble_eq_true rfl) ⟨by decide, by decide⟩ ⟨Nat.zero_le _, Nat.zero_le _⟩ dX9_chases_54 (fun S31 H locs hf h => ?_)
      refine lv_aload_n E.1 E.2.1 dX9_chases_57 rfl (lv_at hl 2 rfl) ?_
      refine lv_iload_n E.1 E.2.1 dX9_chases_58 rfl (lv_at hl 4 rfl) ?_
      refine lv_iconst (v := 3) E.1 E.2.1 dX9_chases_59 (by decide) ?_
      refine lv_iload_n E.1 E.2.1 dX9_chases_60 rfl (lv_at hl 1 rfl) ?_
      refine x_callv E h hl 0 hf (fun r0 hr => c_X9_to l D cy s00 _ S31 p1 3 v1 r0 hr) m_X9_to rfl rfl kw1437 rfl rfl (Nat.le_of_ble_eq_true rfl) ⟨by decide, by decide⟩ ⟨Nat.zero_le _, Nat.zero_le _⟩ dX9_chases_61 (fun S32 H locs hf h => ?_)
      refine lv_aload_n E.1 E.2.1 dX9_chases_64 rfl (lv_at hl 2 rfl) ?_
      refine lv_iload_n E.1 E.2.1 dX9_chases_65 rfl (lv_at hl 4 rfl) ?_
      refine lv_iconst (v := 2) E.1 E.2.1 dX9_chases_66 (by decide) ?_
      refine x_callp E h hl 0 hf (fun r0 hr => c_X9_of l D cy s00 _ S32 p1 2 r0 hr) m_X9_of rfl rfl kw1429 rfl rfl (Nat.le_of_ble_eq_true rfl) ⟨by decide, by decide⟩ ⟨Nat.zero_le _, Nat.zero_le _⟩ dX9_chases_67 (fun v33 H locs hf h => ?_)
      refine x_br hf (lv_if_le (tgt := 112) E.1 E.2.1 dX9_chases_70 (by decide)) (fun hf => ?_) (fun hf => ?_)
      · refine lv_aload_n E.1 E.2.1 dX9_chases_112 rfl (lv_at hl 2 rfl) ?_
        refine lv_iload E.1 E.2.1 dX9_chases_113 (lv_at hl 0 rfl) ?_
        refine x_callp E h hl 0 hf (fun r0 hr => c_X9_owner l D cy s00 _ S32 v2 r0 hr) m_X9_owner rfl rfl kw1465 rfl rfl (Nat.le_of_ble_eq_true rfl) ⟨by decide, by decide⟩ ⟨Nat.zero_le _, Nat.zero_le _⟩ dX9_chases_115 (fun v34 H locs hf h => ?_)
        refine lv_iload_n E.1 E.2.1 dX9_chases_118 rfl (lv_at hl 3 rfl) ?_
        refine x_brn hf (lv_icmp_ne (tgt := 126) E.1 E.2.1 dX9_chases_119 (by decide)) (fun hf => ?_) (fun hf => ?_)
        · refine lv_iconst (v := 0) E.1 E.2.1 dX9_chases_126 (by decide) ?_
          exact x_zic E h (by decide) hf dX9_chases_127
        · refine lv_iconst (v := 1) E.1 E.2.1 dX9_chases_122 (by decide) ?_
          refine lv_goto (tgt := 127) E.1 E.2.1 dX9_chases_123 (by decide) ?_
          exact x_zic E h (by decide) hf dX9_chases_127
      · refine lv_aload_n E.1 E.2.1 dX9_chases_73 rfl (lv_at hl 2 rfl) ?_
        refine lv_iload_n E.1 E.2.1 dX9_chases_74 rfl (lv_at hl 3 rfl) ?_
        refine lv_iconst (v := 2) E.1 E.2.1 dX9_chases_75 (by decide) ?_
        refine x_callp E h hl 0 hf (fun r0 hr => c_X9_of l D cy s00 _ S32 p0 2 r0 hr) m_X9_of rfl rfl kw1429 rfl rfl (Nat.le_of_ble_eq_true rfl) ⟨by decide, by decide⟩ ⟨Nat.zero_le _, Nat.zero_le _⟩ dX9_chases_76 (fun v35 H locs hf h => ?_)
        refine lv_bipush (v := 99) E.1 E.2.1 dX9_chases_79 (by decide) ?_
        refine x_br hf (lv_icmp_ge (tgt := 112) E.1 E.2.1 dX9_chases_81 (by decide)) (fun hf => ?_) (fun hf => ?_)
        · refine lv_aload_n E.1 E.2.1 dX9_chases_112 rfl (lv_at hl 2 rfl) ?_
          refine lv_iload E.1 E.2.1 dX9_chases_113 (lv_at hl 0 rfl) ?_
          refine x_callp E h hl 0 hf (fun r0 hr => c_X9_owner l D cy s00 _ S32 v2 r0 hr) m_X9_owner rfl rfl kw1465 rfl rfl (Nat.le_of_ble_eq_true rfl) ⟨by decide, by decide⟩ ⟨Nat.zero_le _, Nat.zero_le _⟩ dX9_chases_115 (fun v36 H locs hf h => ?_)
          refine lv_iload_n E.1 E.2.1 dX9_chases_118 rfl (lv_at hl 3 rfl) ?_
          refine x_brn hf (lv_icmp_ne (tgt := 126) E.1 E.2.1 dX9_chases_119 (by decide)) (fun hf => ?_) (fun hf => ?_)
          · refine lv_iconst (v := 0) E.1 E.2.1 dX9_chases_126 (by decide) ?_
            exact x_zic E h (by decide) hf dX9_chases_127
          · refine lv_iconst (v := 1) E.1 E.2.1 dX9_chases_122 (by decide) ?_
            refine lv_goto (tgt := 127) E.1 E.2.1 dX9_chases_123 (by decide) ?_
            exact x_zic E h (by decide) hf dX9_chases_127
        · refine lv_aload_n E.1 E.2.1 dX9_chases_84 rfl (lv_at hl 2 rfl) ?_
          refine lv_iload_n E.1 E.2.1 dX9_chases_85 rfl (lv_at hl 4 rfl) ?_
          refine lv_iconst (v := 2) E.1 E.2.1 dX9_chases_86 (by decide) ?_
          refine lv_aload_n E.1 E.2.1 dX9_chases_87 rfl (lv_at hl 2 rfl) ?_
          refine lv_iload_n E.1 E.2.1 dX9_chases_88 rfl (lv_at hl 4 rfl) ?_
          refine lv_iconst (v := 2) E.1 E.2.1 dX9_chases_89 (by decide) ?_
          refine x_callp E h hl 0 hf (fun r0 hr => c_X9_of l D cy s00 _ S32 p1 2 r0 hr) m_X9_of rfl rfl kw1429 rfl rfl (Nat.le_of_ble_eq_true rfl) ⟨by decide, by decide⟩ ⟨Nat.zero_le _, Nat.zero_le _⟩ dX9_chases_90 (fun v37 H locs hf h => ?_)
          refine lv_iconst (v := 1) E.1 E.2.1 dX9_chases_93 (by decide) ?_
          refine lv_isub E.1 E.2.1 dX9_chases_94 ?_
          refine x_callv E h hl 0 hf (fun r0 hr => c_X9_to l D cy s00 _ S32 p1 2 (v37 - 1) r0 hr) m_X9_to rfl rfl kw1437 rfl rfl (Nat.le_of_ble_eq_true rfl) ⟨by decide, by decide⟩ ⟨Nat.zero_le _, Nat.zero_le _⟩ dX9_chases_95 (fun S38 H locs hf h => ?_)
          refine lv_aload_n E.1 E.2.1 dX9_chases_98 rfl (lv_at hl 2 rfl) ?_
          refine lv_iload_n E.1 E.2.1 dX9_chases_99 rfl (lv_at hl 3 rfl) ?_
          refine lv_iconst (v := 2) E.1 E.2.1 dX9_chases_100 (by decide) ?_
          refine lv_aload_n E.1 E.2.1 dX9_chases_101 rfl (lv_at hl 2 rfl) ?_
          refine lv_iload_n E.1 E.2.1 dX9_chases_102 rfl (lv_at hl 3 rfl) ?_
          refine lv_iconst (v := 2) E.1 E.2.1 dX9_chases_103 (by decide) ?_
          refine x_callp E h hl 0 hf (fun r0 hr => c_X9_of l D cy s00 _ S38 p0 2 r0 hr) m_X9_of rfl rfl kw1429 rfl rfl (Nat.le_of_ble_eq_true rfl) ⟨by decide, by decide⟩ ⟨Nat.zero_le _, Nat.zero_le _⟩ dX9_chases_104 (fun v39 H locs hf h => ?_)
          refine lv_iconst (v := 1) E.1 E.2.1 dX9_chases_107 (by decide) ?_
          refine lv_iadd E.1 E.2.1 dX9_chases_108 ?_
          refine x_callv E h hl 0 hf (fun r0 hr => c_X9_to l D cy s00 _ S38 p0 2 (v39 + 1) r0 hr) m_X9_to rfl rfl kw1437 rfl rfl (Nat.le_of_ble_eq_true rfl) ⟨by decide, by decide⟩ ⟨Nat.zero_le _, Nat.zero_le _⟩ dX9_chases_109 (fun S40 H locs hf h => ?_)
          refine lv_aload_n E.1 E.2.1 dX9_chases_112 rfl (lv_at hl 2 rfl) ?_
          refine lv_iload E.1 E.2.1 dX9_chases_113 (lv_at hl 0 rfl) ?_
          refine x_callp E h hl 0 hf (fun r0 hr => c_X9_owner l D cy s00 _ S40 v2 r0 hr) m_X9_owner rfl rfl kw1465 rfl rfl (Nat.le_of_ble_eq_true rfl) ⟨by decide, by decide⟩ ⟨Nat.zero_le _, Nat.zero_le _⟩ dX9_chases_115 (fun v41 H locs hf h => ?_)
          refine lv_iload_n E.1 E.2.1 dX9_chases_118 rfl (lv_at hl 3 rfl) ?_
          refine x_brn hf (lv_icmp_ne (tgt := 126) E.1 E.2.1 dX9_chases_119 (by decide)) (fun hf => ?_) (fun hf => ?_)
          · refine lv_iconst (v := 0) E.1 E.2.1 dX9_chases_126 (by decide) ?_
            exact x_zic E h (by decide) hf dX9_chases_127
          · refine lv_iconst (v := 1) E.1 E.2.1 dX9_chases_122 (by decide) ?_
            refine lv_goto (tgt := 127) E.1 E.2.1 dX9_chases_123 (by decide) ?_
            exact x_zic E h (by decide) hf dX9_chases_127
set_option maxHeartbeats 4000000 in
set_option maxRecDepth 100000 in
theorem c_X9_readsChase (l : Launch) (D : va_G) (cy : Nat → ClassId) (s00 : State) (ad : Nat → Nat) (S : XS) (r9 : Int32) (S9 : XS) (hf : f_X9_readsChase S = some (r9, S9)) : XI l yX9_readsChase cX9_readsChase 1 (some .boolean) 4 D cy s00 shMod ad S [.ref (ad 0)] r9 S9 := by
  refine XI.of (by decide) [(0, .ref (ad 0))] rfl (Nat.le_of_ble_eq_true rfl) (fun p e s m args below meth c A ls E h hl => ?_)
  unfold f_X9_readsChase at hf
  refine lv_aload_n E.1 E.2.1 dX9_readsChase_0 rfl (lv_at hl 0 rfl) ?_
  refine lv_iconst (v := 0) E.1 E.2.1 dX9_readsChase_1 (by decide) ?_
  refine x_calli E h hl 0 hf (fun r0 Sq0 hr => c_X9_catAt l D cy s00 _ S 0 r0 Sq0 hr) m_X9_catAt rfl rfl kw1445 rfl rfl (Nat.le_of_ble_eq_true rfl) ⟨by decide, by decide⟩ ⟨Nat.zero_le _, Nat.zero_le _⟩ dX9_readsChase_2 (fun v1 S2 H locs hf h => ?_)
  refine x_br hf (lv_if_eq (tgt := 54) E.1 E.2.1 dX9_readsChase_5 (by decide)) (fun hf => ?_) (fun hf => ?_)
  · refine lv_iconst (v := 0) E.1 E.2.1 dX9_readsChase_54 (by decide) ?_
    exact x_zic E h (by decide) hf dX9_readsChase_55
  · refine lv_aload_n E.1 E.2.1 dX9_readsChase_8 rfl (lv_at hl 0 rfl) ?_
    refine lv_aload_n E.1 E.2.1 dX9_readsChase_9 rfl (lv_at hl 0 rfl) ?_
    refine x_getr E h 0 0 1 rfl rfl rfl (by decide) xinX9 kw1610 dX9_readsChase_10 ?_
    refine lv_iconst (v := 2) E.1 E.2.1 dX9_readsChase_13 (by decide) ?_
    refine x_iald E h 1 hf rfl dX9_readsChase_14 (fun v3 hf => ?_)
    refine lv_iconst (v := 1) E.1 E.2.1 dX9_readsChase_15 (by decide) ?_
    refine lv_isub E.1 E.2.1 dX9_readsChase_16 ?_
    refine x_calli E h hl 0 hf (fun r0 Sq0 hr => c_X9_another l D cy s00 _ S2 (v3 - 1) r0 Sq0 hr) m_X9_another rfl rfl kw1405 rfl rfl (Nat.le_of_ble_eq_true rfl) ⟨by decide, by decide⟩ ⟨Nat.zero_le _, Nat.zero_le _⟩ dX9_readsChase_17 (fun v4 S5 H locs hf h => ?_)
    refine x_br hf (lv_if_eq (tgt := 54) E.1 E.2.1 dX9_readsChase_20 (by decide)) (fun hf => ?_) (fun hf => ?_)
    · refine lv_iconst (v := 0) E.1 E.2.1 dX9_readsChase_54 (by decide) ?_
      exact x_zic E h (by decide) hf dX9_readsChase_55
    · refine lv_aload_n E.1 E.2.1 dX9_readsChase_23 rfl (lv_at hl 0 rfl) ?_
      refine lv_aload_n E.1 E.2.1 dX9_readsChase_24 rfl (lv_at hl 0 rfl) ?_
      refine lv_aload_n E.1 E.2.1 dX9_readsChase_25 rfl (lv_at hl 0 rfl) ?_
      refine x_getr E h 0 22 10 rfl rfl rfl (by decide) xinX9 kw1632 dX9_readsChase_26 ?_
      refine lv_iconst (v := 0) E.1 E.2.1 dX9_readsChase_29 (by decide) ?_
      refine x_iald E h 10 hf rfl dX9_readsChase_30 (fun v6 hf => ?_)
      refine lv_aload_n E.1 E.2.1 dX9_readsChase_31 rfl (lv_at hl 0 rfl) ?_
      refine x_getr E h 0 22 10 rfl rfl rfl (by decide) xinX9 kw1632 dX9_readsChase_32 ?_
      refine lv_iconst (v := 1) E.1 E.2.1 dX9_readsChase_35 (by decide) ?_
      refine x_iald E h 10 hf rfl dX9_readsChase_36 (fun v7 hf => ?_)
      refine x_callp E h hl 0 hf (fun r0 hr => c_X9_whySpares l D cy s00 _ S5 v6 v7 r0 hr) m_X9_whySpares rfl rfl kw1506 rfl rfl (Nat.le_of_ble_eq_true rfl) ⟨by decide, by decide⟩ ⟨Nat.zero_le _, Nat.zero_le _⟩ dX9_readsChase_37 (fun v8 H locs hf h => ?_)
      refine x_brn hf (lv_if_ne (tgt := 47) E.1 E.2.1 dX9_readsChase_40 (by decide)) (fun hf => ?_) (fun hf => ?_)
      · refine lv_iconst (v := 0) E.1 E.2.1 dX9_readsChase_47 (by decide) ?_
        refine x_calli E h hl 0 hf (fun r0 Sq0 hr => c_X9_stops l D cy s00 _ S5 0 r0 Sq0 hr) m_X9_stops rfl rfl kw1389 rfl rfl (Nat.le_of_ble_eq_true rfl) ⟨by decide, by decide⟩ ⟨Nat.zero_le _, Nat.zero_le _⟩ dX9_readsChase_48 (fun v9 S10 H locs hf h => ?_)
        refine x_brn hf (lv_if_ne (tgt := 56) E.1 E.2.1 dX9_readsChase_51 (by decide)) (fun hf => ?_) (fun hf => ?_)
        · refine lv_aload_n E.1 E.2.1 dX9_readsChase_56 rfl (lv_at hl 0 rfl) ?_
          refine lv_aload_n E.1 E.2.1 dX9_readsChase_57 rfl (lv_at hl 0 rfl) ?_
          refine x_getr E h 0 22 10 rfl rfl rfl (by decide) xinX9 kw1632 dX9_readsChase_58 ?_
          refine lv_iconst (v := 0) E.1 E.2.1 dX9_readsChase_61 (by decide) ?_
          refine x_iald E h 10 hf rfl dX9_readsChase_62 (fun v11 hf => ?_)
          refine lv_aload_n E.1 E.2.1 dX9_readsChase_63 rfl (lv_at hl 0 rfl) ?_
          refine x_getr E h 0 22 10 rfl rfl rfl (by decide) xinX9 kw1632 dX9_readsChase_64 ?_
          refine lv_iconst (v := 1) E.1 E.2.1 dX9_readsChase_67 (by decide) ?_
          refine x_iald E h 10 hf rfl dX9_readsChase_68 (fun v12 hf => ?_)
          refine x_calli E h hl 0 hf (fun r0 Sq0 hr => c_X9_chases l D cy s00 _ S10 v11 v12 r0 Sq0 hr) m_X9_chases rfl rfl kw1526 rfl rfl (Nat.le_of_ble_eq_true rfl) ⟨by decide, by decide⟩ ⟨Nat.zero_le _, Nat.zero_le _⟩ dX9_readsChase_69 (fun v13 S14 H locs hf h => ?_)
          refine lv_pop E.1 E.2.1 dX9_readsChase_72 rfl ?_
          refine lv_iconst (v := 1) E.1 E.2.1 dX9_readsChase_73 (by decide) ?_
          exact x_zic E h (by decide) hf dX9_readsChase_74
        · refine lv_iconst (v := 0) E.1 E.2.1 dX9_readsChase_54 (by decide) ?_
          exact x_zic E h (by decide) hf dX9_readsChase_55
      · refine lv_iconst (v := 1) E.1 E.2.1 dX9_readsChase_43 (by decide) ?_
        refine lv_goto (tgt := 48) E.1 E.2.1 dX9_readsChase_44 (by decide) ?_
        refine x_calli E h hl 0 hf (fun r0 Sq0 hr => c_X9_stops l D cy s00 _ S5 1 r0 Sq0 hr) m_X9_stops rfl rfl kw1389 rfl rfl (Nat.le_of_ble_eq_true rfl) ⟨by decide, by decide⟩ ⟨Nat.zero_le _, Nat.zero_le _⟩ dX9_readsChase_48 (fun v15 S16 H locs hf h => ?_)
        refine x_brn hf (lv_if_ne (tgt := 56) E.1 E.2.1 dX9_readsChase_51 (by decide)) (fun hf => ?_) (fun hf => ?_)
        · refine lv_aload_n E.1 E.2.1 dX9_readsChase_56 rfl (lv_at hl 0 rfl) ?_
          refine lv_aload_n E.1 E.2.1 dX9_readsChase_57 rfl (lv_at hl 0 rfl) ?_
          refine x_getr E h 0 22 10 rfl rfl rfl (by decide) xinX9 kw1632 dX9_readsChase_58 ?_
          refine lv_iconst (v := 0) E.1 E.2.1 dX9_readsChase_61 (by decide) ?_
          refine x_iald E h 10 hf rfl dX9_readsChase_62 (fun v17 hf => ?_)
          refine lv_aload_n E.1 E.2.1 dX9_readsChase_63 rfl (lv_at hl 0 rfl) ?_
          refine x_getr E h 0 22 10 rfl rfl rfl (by decide) xinX9 kw1632 dX9_readsChase_64 ?_
          refine lv_iconst (v := 1) E.1 E.2.1 dX9_readsChase_67 (by decide) ?_
          refine x_iald E h 10 hf rfl dX9_readsChase_68 (fun v18 hf => ?_)
          refine x_calli E h hl 0 hf (fun r0 Sq0 hr => c_X9_chases l D cy s00 _ S16 v17 v18 r0 Sq0 hr) m_X9_chases rfl rfl kw1526 rfl rfl (Nat.le_of_ble_eq_true rfl) ⟨by decide, by decide⟩ ⟨Nat.zero_le _, Nat.zero_le _⟩ dX9_readsChase_69 (fun v19 S20 H locs hf h => ?_)
          refine lv_pop E.1 E.2.1 dX9_readsChase_72 rfl ?_
          refine lv_iconst (v := 1) E.1 E.2.1 dX9_readsChase_73 (by decide) ?_
          exact x_zic E h (by decide) hf dX9_readsChase_74
        · refine lv_iconst (v := 0) E.1 E.2.1 dX9_readsChase_54 (by decide) ?_
          exact x_zic E h (by decide) hf dX9_readsChase_55
set_option maxHeartbeats 4000000 in
set_option maxRecDepth 100000 in
theorem c_X9_canBuy (l : Launch) (D : va_G) (cy : Nat → ClassId) (s00 : State) (ad : Nat → Nat) (S : XS) (p0 p1 p2 : Int32) (r9 : Int32) (hf : f_X9_canBuy S p0 p1 p2 = some r9) : XI l yX9_canBuy cX9_canBuy 4 (some .boolean) 2 D cy s00 shMod ad S [.ref (ad 0), .int p0, .int p1, .int p2] r9 S := by
  refine XI.of (by decide) [(0, .ref (ad 0)), (1, .int p0), (2, .int p1), (3, .int p2)] rfl (Nat.le_of_ble_eq_true rfl) (fun p e s m args below meth c A ls E h hl => ?_)
  unfold f_X9_canBuy at hf
  refine lv_aload_n E.1 E.2.1 dX9_canBuy_0 rfl (lv_at hl 0 rfl) ?_
  refine lv_iload_n E.1 E.2.1 dX9_canBuy_1 rfl (lv_at hl 1 rfl) ?_
  refine lv_iload_n E.1 E.2.1 dX9_canBuy_2 rfl (lv_at hl 2 rfl) ?_
  refine x_callp E h hl 0 hf (fun r0 hr => c_X9_truceLeft l D cy s00 _ S p0 p1 r0 hr) m_X9_truceLeft rfl rfl kw1469 rfl rfl (Nat.le_of_ble_eq_true rfl) ⟨by decide, by decide⟩ ⟨Nat.zero_le _, Nat.zero_le _⟩ dX9_canBuy_3 (fun v1 H locs hf h => ?_)
  refine x_brn hf (lv_if_ne (tgt := 36) E.1 E.2.1 dX9_canBuy_6 (by decide)) (fun hf => ?_) (fun hf => ?_)
  · refine lv_iconst (v := 0) E.1 E.2.1 dX9_canBuy_36 (by decide) ?_
    exact x_zrc E h (by decide) hf dX9_canBuy_37
  · refine lv_aload_n E.1 E.2.1 dX9_canBuy_9 rfl (lv_at hl 0 rfl) ?_
    refine lv_iload_n E.1 E.2.1 dX9_canBuy_10 rfl (lv_at hl 1 rfl) ?_
    refine lv_iconst (v := 2) E.1 E.2.1 dX9_canBuy_11 (by decide) ?_
    refine x_callp E h hl 0 hf (fun r0 hr => c_X9_of l D cy s00 _ S p0 2 r0 hr) m_X9_of rfl rfl kw1429 rfl rfl (Nat.le_of_ble_eq_true rfl) ⟨by decide, by decide⟩ ⟨Nat.zero_le _, Nat.zero_le _⟩ dX9_canBuy_12 (fun v2 H locs hf h => ?_)
    refine lv_iload_n E.1 E.2.1 dX9_canBuy_15 rfl (lv_at hl 3 rfl) ?_
    refine x_br hf (lv_icmp_lt (tgt := 36) E.1 E.2.1 dX9_canBuy_16 (by decide)) (fun hf => ?_) (fun hf => ?_)
    · refine lv_iconst (v := 0) E.1 E.2.1 dX9_canBuy_36 (by decide) ?_
      exact x_zrc E h (by decide) hf dX9_canBuy_37
    · refine lv_aload_n E.1 E.2.1 dX9_canBuy_19 rfl (lv_at hl 0 rfl) ?_
      refine lv_iload_n E.1 E.2.1 dX9_canBuy_20 rfl (lv_at hl 2 rfl) ?_
      refine lv_iconst (v := 2) E.1 E.2.1 dX9_canBuy_21 (by decide) ?_
      refine x_callp E h hl 0 hf (fun r0 hr => c_X9_of l D cy s00 _ S p1 2 r0 hr) m_X9_of rfl rfl kw1429 rfl rfl (Nat.le_of_ble_eq_true rfl) ⟨by decide, by decide⟩ ⟨Nat.zero_le _, Nat.zero_le _⟩ dX9_canBuy_22 (fun v3 H locs hf h => ?_)
      refine lv_iload_n E.1 E.2.1 dX9_canBuy_25 rfl (lv_at hl 3 rfl) ?_
      refine lv_iadd E.1 E.2.1 dX9_canBuy_26 ?_
      refine lv_bipush (v := 99) E.1 E.2.1 dX9_canBuy_27 (by decide) ?_
      refine x_br hf (lv_icmp_gt (tgt := 36) E.1 E.2.1 dX9_canBuy_29 (by decide)) (fun hf => ?_) (fun hf => ?_)
      · refine lv_iconst (v := 0) E.1 E.2.1 dX9_canBuy_36 (by decide) ?_
        exact x_zrc E h (by decide) hf dX9_canBuy_37
      · refine lv_iconst (v := 1) E.1 E.2.1 dX9_canBuy_32 (by decide) ?_
        refine lv_goto (tgt := 37) E.1 E.2.1 dX9_canBuy_33 (by decide) ?_
        exact x_zrc E h (by decide) hf dX9_canBuy_37
set_option maxHeartbeats 4000000 in
set_option maxRecDepth 100000 in
theorem c_X9_buys (l : Launch) (D : va_G) (cy : Nat → ClassId) (s00 : State) (ad : Nat → Nat) (S : XS) (p0 p1 p2 p3 : Int32) (r9 : Int32) (S9 : XS) (hf : f_X9_buys S p0 p1 p2 p3 = some (r9, S9)) : XI l yX9_buys cX9_buys 5 (some .int) 1 D cy s00 shMod ad S [.ref (ad 0), .int p0, .int p1, .int p2, .int p3] r9 S9 := by
  refine XI.of (by decide) [(0, .ref (ad 0)), (1, .int p0), (2, .int p1), (3, .int p2), (4, .int p3)] rfl (Nat.le_of_ble_eq_true rfl) (fun p e s m args below meth c A ls E h hl => ?_)
  unfold f_X9_buys at hf
  refine lv_aload_n E.1 E.2.1 dX9_buys_0 rfl (lv_at hl 0 rfl) ?_
  refine lv_iload_n E.1 E.2.1 dX9_buys_1 rfl (lv_at hl 1 rfl) ?_
  refine lv_iconst (v := 2) E.1 E.2.1 dX9_buys_2 (by decide) ?_
  refine lv_aload_n E.1 E.2.1 dX9_buys_3 rfl (lv_at hl 0 rfl) ?_
  refine lv_iload_n E.1 E.2.1 dX9_buys_4 rfl (lv_at hl 1 rfl) ?_
  refine lv_iconst (v := 2) E.1 E.2.1 dX9_buys_5 (by decide) ?_
  refine x_callp E h hl 0 hf (fun r0 hr => c_X9_of l D cy s00 _ S p0 2 r0 hr) m_X9_of rfl rfl kw1429 rfl rfl (Nat.le_of_ble_eq_true rfl) ⟨by decide, by decide⟩ ⟨Nat.zero_le _, Nat.zero_le _⟩ dX9_buys_6 (fun v1 H locs hf h => ?_)
  refine lv_iload_n E.1 E.2.1 dX9_buys_9 rfl (lv_at hl 3 rfl) ?_
  refine lv_isub E.1 E.2.1 dX9_buys_10 ?_
  refine x_callv E h hl 0 hf (fun r0 hr => c_X9_to l D cy s00 _ S p0 2 (v1 - p2) r0 hr) m_X9_to rfl rfl kw1437 rfl rfl (Nat.le_of_ble_eq_true rfl) ⟨by decide, by decide⟩ ⟨Nat.zero_le _, Nat.zero_le _⟩ dX9_buys_11 (fun S2 H locs hf h => ?_)
  refine lv_aload_n E.1 E.2.1 dX9_buys_14 rfl (lv_at hl 0 rfl) ?_
  refine lv_iload_n E.1 E.2.1 dX9_buys_15 rfl (lv_at hl 2 rfl) ?_
  refine lv_iconst (v := 2) E.1 E.2.1 dX9_buys_16 (by decide) ?_
  refine lv_aload_n E.1 E.2.1 dX9_buys_17 rfl (lv_at hl 0 rfl) ?_
  refine lv_iload_n E.1 E.2.1 dX9_buys_18 rfl (lv_at hl 2 rfl) ?_
  refine lv_iconst (v := 2) E.1 E.2.1 dX9_buys_19 (by decide) ?_
  refine x_callp E h hl 0 hf (fun r0 hr => c_X9_of l D cy s00 _ S2 p1 2 r0 hr) m_X9_of rfl rfl kw1429 rfl rfl (Nat.le_of_ble_eq_true rfl) ⟨by decide, by decide⟩ ⟨Nat.zero_le _, Nat.zero_le _⟩ dX9_buys_20 (fun v3 H locs hf h => ?_)
  refine lv_iload_n E.1 E.2.1 dX9_buys_23 rfl (lv_at hl 3 rfl) ?_
  refine lv_iadd E.1 E.2.1 dX9_buys_24 ?_
  refine x_callv E h hl 0 hf (fun r0 hr => c_X9_to l D cy s00 _ S2 p1 2 (v3 + p2) r0 hr) m_X9_to rfl rfl kw1437 rfl rfl (Nat.le_of_ble_eq_true rfl) ⟨by decide, by decide⟩ ⟨Nat.zero_le _, Nat.zero_le _⟩ dX9_buys_25 (fun S4 H locs hf h => ?_)
  refine lv_aload_n E.1 E.2.1 dX9_buys_28 rfl (lv_at hl 0 rfl) ?_
  refine x_getr E h 0 0 1 rfl rfl rfl (by decide) xinX9 kw1610 dX9_buys_29 ?_
  refine lv_bipush (v := 122) E.1 E.2.1 dX9_buys_32 (by decide) ?_
  refine lv_bipush (v := 8) E.1 E.2.1 dX9_buys_34 (by decide) ?_
  refine lv_iload_n E.1 E.2.1 dX9_buys_36 rfl (lv_at hl 1 rfl) ?_
  refine lv_imul E.1 E.2.1 dX9_buys_37 ?_
  refine lv_iadd E.1 E.2.1 dX9_buys_38 ?_
  refine lv_iload_n E.1 E.2.1 dX9_buys_39 rfl (lv_at hl 2 rfl) ?_
  refine lv_iadd E.1 E.2.1 dX9_buys_40 ?_
  refine lv_aload_n E.1 E.2.1 dX9_buys_41 rfl (lv_at hl 0 rfl) ?_
  refine x_getr E h 0 0 1 rfl rfl rfl (by decide) xinX9 kw1610 dX9_buys_42 ?_
  refine lv_iconst (v := 3) E.1 E.2.1 dX9_buys_45 (by decide) ?_
  refine x_iald E h 1 hf rfl dX9_buys_46 (fun v5 hf => ?_)
  refine lv_iload E.1 E.2.1 dX9_buys_47 (lv_at hl 4 rfl) ?_
  refine lv_iadd E.1 E.2.1 dX9_buys_49 ?_
  refine x_iast E h 1 hf rfl dX9_buys_50 (fun S6 H locs hf h => ?_)
  refine lv_aload_n E.1 E.2.1 dX9_buys_51 rfl (lv_at hl 0 rfl) ?_
  refine x_getr E h 0 0 1 rfl rfl rfl (by decide) xinX9 kw1610 dX9_buys_52 ?_
  refine lv_bipush (v := 122) E.1 E.2.1 dX9_buys_55 (by decide) ?_
  refine lv_bipush (v := 8) E.1 E.2.1 dX9_buys_57 (by decide) ?_
  refine lv_iload_n E.1 E.2.1 dX9_buys_59 rfl (lv_at hl 2 rfl) ?_
  refine lv_imul E.1 E.2.1 dX9_buys_60 ?_
  refine lv_iadd E.1 E.2.1 dX9_buys_61 ?_
  refine lv_iload_n E.1 E.2.1 dX9_buys_62 rfl (lv_at hl 1 rfl) ?_
  refine lv_iadd E.1 E.2.1 dX9_buys_63 ?_
  refine lv_aload_n E.1 E.2.1 dX9_buys_64 rfl (lv_at hl 0 rfl) ?_
  refine x_getr E h 0 0 1 rfl rfl rfl (by decide) xinX9 kw1610 dX9_buys_65 ?_
  refine lv_iconst (v := 3) E.1 E.2.1 dX9_buys_68 (by decide) ?_
  refine x_iald E h 1 hf rfl dX9_buys_69 (fun v8 hf => ?_)
  refine lv_iload E.1 E.2.1 dX9_buys_70 (lv_at hl 4 rfl) ?_
  refine lv_iadd E.1 E.2.1 dX9_buys_72 ?_
  refine x_iast E h 1 hf rfl dX9_buys_73 (fun S9 H locs hf h => ?_)
  refine lv_aload_n E.1 E.2.1 dX9_buys_74 rfl (lv_at hl 0 rfl) ?_
  refine x_getr E h 0 0 1 rfl rfl rfl (by decide) xinX9 kw1610 dX9_buys_75 ?_
  refine lv_iconst (v := 3) E.1 E.2.1 dX9_buys_78 (by decide) ?_
  refine x_iald E h 1 hf rfl dX9_buys_79 (fun v11 hf => ?_)
  refine lv_iload E.1 E.2.1 dX9_buys_80 (lv_at hl 4 rfl) ?_
  refine lv_iadd E.1 E.2.1 dX9_buys_82 ?_
  exact x_iret E h hf dX9_buys_83
set_option maxHeartbeats 4000000 in
set_option maxRecDepth 100000 in
theorem c_X9_readsTruce (l : Launch) (D : va_G) (cy : Nat → ClassId) (s00 : State) (ad : Nat → Nat) (S : XS) (r9 : Int32) (S9 : XS) (hf : f_X9_readsTruce S = some (r9, S9)) : XI l yX9_readsTruce cX9_readsTruce 1 (some .boolean) 4 D cy s00 shMod ad S [.ref (ad 0)] r9 S9 := by
  refine XI.of (by decide) [(0, .ref (ad 0))] rfl (Nat.le_of_ble_eq_true rfl) (fun p e s m args below meth c A ls E h hl => ?_)
  unfold f_X9_readsTruce at hf
  refine lv_aload_n E.1 E.2.1 dX9_readsTruce_0 rfl (lv_at hl 0 rfl) ?_
  refine lv_iconst (v := 0) E.1 E.2.1 dX9_readsTruce_1 (by decide) ?_
  refine x_calli E h hl 0 hf (fun r0 Sq0 hr => c_X9_catAt l D cy s00 _ S 0 r0 Sq0 hr) m_X9_catAt rfl rfl kw1445 rfl rfl (Nat.le_of_ble_eq_true rfl) ⟨by decide, by decide⟩ ⟨Nat.zero_le _, Nat.zero_le _⟩ dX9_readsTruce_2 (fun v1 S2 H locs hf h => ?_)
  refine x_br hf (lv_if_eq (tgt := 74) E.1 E.2.1 dX9_readsTruce_5 (by decide)) (fun hf => ?_) (fun hf => ?_)
  · refine lv_iconst (v := 0) E.1 E.2.1 dX9_readsTruce_74 (by decide) ?_
    exact x_zic E h (by decide) hf dX9_readsTruce_75
  · refine lv_aload_n E.1 E.2.1 dX9_readsTruce_8 rfl (lv_at hl 0 rfl) ?_
    refine lv_aload_n E.1 E.2.1 dX9_readsTruce_9 rfl (lv_at hl 0 rfl) ?_
    refine x_getr E h 0 0 1 rfl rfl rfl (by decide) xinX9 kw1610 dX9_readsTruce_10 ?_
    refine lv_iconst (v := 2) E.1 E.2.1 dX9_readsTruce_13 (by decide) ?_
    refine x_iald E h 1 hf rfl dX9_readsTruce_14 (fun v3 hf => ?_)
    refine lv_iconst (v := 1) E.1 E.2.1 dX9_readsTruce_15 (by decide) ?_
    refine lv_isub E.1 E.2.1 dX9_readsTruce_16 ?_
    refine x_calli E h hl 0 hf (fun r0 Sq0 hr => c_X9_another l D cy s00 _ S2 (v3 - 1) r0 Sq0 hr) m_X9_another rfl rfl kw1405 rfl rfl (Nat.le_of_ble_eq_true rfl) ⟨by decide, by decide⟩ ⟨Nat.zero_le _, Nat.zero_le _⟩ dX9_readsTruce_17 (fun v4 S5 H locs hf h => ?_)
    refine x_br hf (lv_if_eq (tgt := 74) E.1 E.2.1 dX9_readsTruce_20 (by decide)) (fun hf => ?_) (fun hf => ?_)
    · refine lv_iconst (v := 0) E.1 E.2.1 dX9_readsTruce_74 (by decide) ?_
      exact x_zic E h (by decide) hf dX9_readsTruce_75
    · refine lv_aload_n E.1 E.2.1 dX9_readsTruce_23 rfl (lv_at hl 0 rfl) ?_
      refine lv_iconst (v := 2) E.1 E.2.1 dX9_readsTruce_24 (by decide) ?_
      refine lv_iconst (v := 1) E.1 E.2.1 dX9_readsTruce_25 (by decide) ?_
      refine lv_bipush (v := 9) E.1 E.2.1 dX9_readsTruce_26 (by decide) ?_
      refine x_calli E h hl 0 hf (fun r0 Sq0 hr => c_X9_number l D cy s00 _ S5 2 1 9 r0 Sq0 hr) m_X9_number rfl rfl kw1374 rfl rfl (Nat.le_of_ble_eq_true rfl) ⟨by decide, by decide⟩ ⟨Nat.zero_le _, Nat.zero_le _⟩ dX9_readsTruce_28 (fun v6 S7 H locs hf h => ?_)
      refine x_br hf (lv_if_eq (tgt := 74) E.1 E.2.1 dX9_readsTruce_31 (by decide)) (fun hf => ?_) (fun hf => ?_)
      · refine lv_iconst (v := 0) E.1 E.2.1 dX9_readsTruce_74 (by decide) ?_
        exact x_zic E h (by decide) hf dX9_readsTruce_75
      · refine lv_aload_n E.1 E.2.1 dX9_readsTruce_34 rfl (lv_at hl 0 rfl) ?_
        refine lv_iconst (v := 3) E.1 E.2.1 dX9_readsTruce_35 (by decide) ?_
        refine lv_iconst (v := 1) E.1 E.2.1 dX9_readsTruce_36 (by decide) ?_
        refine lv_bipush (v := 20) E.1 E.2.1 dX9_readsTruce_37 (by decide) ?_
        refine x_calli E h hl 0 hf (fun r0 Sq0 hr => c_X9_number l D cy s00 _ S7 3 1 20 r0 Sq0 hr) m_X9_number rfl rfl kw1374 rfl rfl (Nat.le_of_ble_eq_true rfl) ⟨by decide, by decide⟩ ⟨Nat.zero_le _, Nat.zero_le _⟩ dX9_readsTruce_39 (fun v8 S9 H locs hf h => ?_)
        refine x_br hf (lv_if_eq (tgt := 74) E.1 E.2.1 dX9_readsTruce_42 (by decide)) (fun hf => ?_) (fun hf => ?_)
        · refine lv_iconst (v := 0) E.1 E.2.1 dX9_readsTruce_74 (by decide) ?_
          exact x_zic E h (by decide) hf dX9_readsTruce_75
        · refine lv_aload_n E.1 E.2.1 dX9_readsTruce_45 rfl (lv_at hl 0 rfl) ?_
          refine lv_aload_n E.1 E.2.1 dX9_readsTruce_46 rfl (lv_at hl 0 rfl) ?_
          refine lv_aload_n E.1 E.2.1 dX9_readsTruce_47 rfl (lv_at hl 0 rfl) ?_
          refine x_getr E h 0 22 10 rfl rfl rfl (by decide) xinX9 kw1632 dX9_readsTruce_48 ?_
          refine lv_iconst (v := 0) E.1 E.2.1 dX9_readsTruce_51 (by decide) ?_
          refine x_iald E h 10 hf rfl dX9_readsTruce_52 (fun v10 hf => ?_)
          refine lv_aload_n E.1 E.2.1 dX9_readsTruce_53 rfl (lv_at hl 0 rfl) ?_
          refine x_getr E h 0 22 10 rfl rfl rfl (by decide) xinX9 kw1632 dX9_readsTruce_54 ?_
          refine lv_iconst (v := 1) E.1 E.2.1 dX9_readsTruce_57 (by decide) ?_
          refine x_iald E h 10 hf rfl dX9_readsTruce_58 (fun v11 hf => ?_)
          refine lv_aload_n E.1 E.2.1 dX9_readsTruce_59 rfl (lv_at hl 0 rfl) ?_
          refine x_getr E h 0 22 10 rfl rfl rfl (by decide) xinX9 kw1632 dX9_readsTruce_60 ?_
          refine lv_iconst (v := 2) E.1 E.2.1 dX9_readsTruce_63 (by decide) ?_
          refine x_iald E h 10 hf rfl dX9_readsTruce_64 (fun v12 hf => ?_)
          refine x_callp E h hl 0 hf (fun r0 hr => c_X9_canBuy l D cy s00 _ S9 v10 v11 v12 r0 hr) m_X9_canBuy rfl rfl kw1534 rfl rfl (Nat.le_of_ble_eq_true rfl) ⟨by decide, by decide⟩ ⟨Nat.zero_le _, Nat.zero_le _⟩ dX9_readsTruce_65 (fun v13 H locs hf h => ?_)
          refine x_calli E h hl 0 hf (fun r0 Sq0 hr => c_X9_stops l D cy s00 _ S9 v13 r0 Sq0 hr) m_X9_stops rfl rfl kw1389 rfl rfl (Nat.le_of_ble_eq_true rfl) ⟨by decide, by decide⟩ ⟨Nat.zero_le _, Nat.zero_le _⟩ dX9_readsTruce_68 (fun v14 S15 H locs hf h => ?_)
          refine x_brn hf (lv_if_ne (tgt := 76) E.1 E.2.1 dX9_readsTruce_71 (by decide)) (fun hf => ?_) (fun hf => ?_)
          · refine lv_aload_n E.1 E.2.1 dX9_readsTruce_76 rfl (lv_at hl 0 rfl) ?_
            refine lv_aload_n E.1 E.2.1 dX9_readsTruce_77 rfl (lv_at hl 0 rfl) ?_
            refine x_getr E h 0 22 10 rfl rfl rfl (by decide) xinX9 kw1632 dX9_readsTruce_78 ?_
            refine lv_iconst (v := 0) E.1 E.2.1 dX9_readsTruce_81 (by decide) ?_
            refine x_iald E h 10 hf rfl dX9_readsTruce_82 (fun v16 hf => ?_)
            refine lv_aload_n E.1 E.2.1 dX9_readsTruce_83 rfl (lv_at hl 0 rfl) ?_
            refine x_getr E h 0 22 10 rfl rfl rfl (by decide) xinX9 kw1632 dX9_readsTruce_84 ?_
            refine lv_iconst (v := 1) E.1 E.2.1 dX9_readsTruce_87 (by decide) ?_
            refine x_iald E h 10 hf rfl dX9_readsTruce_88 (fun v17 hf => ?_)
            refine lv_aload_n E.1 E.2.1 dX9_readsTruce_89 rfl (lv_at hl 0 rfl) ?_
            refine x_getr E h 0 22 10 rfl rfl rfl (by decide) xinX9 kw1632 dX9_readsTruce_90 ?_
            refine lv_iconst (v := 2) E.1 E.2.1 dX9_readsTruce_93 (by decide) ?_
            refine x_iald E h 10 hf rfl dX9_readsTruce_94 (fun v18 hf => ?_)
            refine lv_aload_n E.1 E.2.1 dX9_readsTruce_95 rfl (lv_at hl 0 rfl) ?_
            refine x_getr E h 0 22 10 rfl rfl rfl (by decide) xinX9 kw1632 dX9_readsTruce_96 ?_
            refine lv_iconst (v := 3) E.1 E.2.1 dX9_readsTruce_99 (by decide) ?_
            refine x_iald E h 10 hf rfl dX9_readsTruce_100 (fun v19 hf => ?_)
            refine x_calli E h hl 0 hf (fun r0 Sq0 hr => c_X9_buys l D cy s00 _ S15 v16 v17 v18 v19 r0 Sq0 hr) m_X9_buys rfl rfl kw1538 rfl rfl (Nat.le_of_ble_eq_true rfl) ⟨by decide, by decide⟩ ⟨Nat.zero_le _, Nat.zero_le _⟩ dX9_readsTruce_101 (fun v20 S21 H locs hf h => ?_)
            refine lv_pop E.1 E.2.1 dX9_readsTruce_104 rfl ?_
            refine lv_iconst (v := 1) E.1 E.2.1 dX9_readsTruce_105 (by decide) ?_
            exact x_zic E h (by decide) hf dX9_readsTruce_106
          · refine lv_iconst (v := 0) E.1 E.2.1 dX9_readsTruce_74 (by decide) ?_
            exact x_zic E h (by decide) hf dX9_readsTruce_75
set_option maxHeartbeats 4000000 in
set_option maxRecDepth 100000 in
theorem c_X9_waits (l : Launch) (D : va_G) (cy : Nat → ClassId) (s00 : State) (ad : Nat → Nat) (S : XS) (r9 : Int32) (hf : f_X9_waits S = some r9) : XI l yX9_waits cX9_waits 1 (some .boolean) 0 D cy s00 shMod ad S [.ref (ad 0)] r9 S := by
  refine XI.of (by decide) [(0, .ref (ad 0))] rfl (Nat.le_of_ble_eq_true rfl) (fun p e s m args below meth c A ls E h hl => ?_)
  unfold f_X9_waits at hf
  refine lv_aload_n E.1 E.2.1 dX9_waits_0 rfl (lv_at hl 0 rfl) ?_
  refine x_getr E h 0 0 1 rfl rfl rfl (by decide) xinX9 kw1610 dX9_waits_1 ?_
  refine lv_iconst (v := 4) E.1 E.2.1 dX9_waits_4 (by decide) ?_
  refine x_iald E h 1 hf rfl dX9_waits_5 (fun v1 hf => ?_)
  refine x_br hf (lv_if_le (tgt := 13) E.1 E.2.1 dX9_waits_6 (by decide)) (fun hf => ?_) (fun hf => ?_)
  · refine lv_iconst (v := 0) E.1 E.2.1 dX9_waits_13 (by decide) ?_
    exact x_zrc E h (by decide) hf dX9_waits_14
  · refine lv_iconst (v := 1) E.1 E.2.1 dX9_waits_9 (by decide) ?_
    refine lv_goto (tgt := 14) E.1 E.2.1 dX9_waits_10 (by decide) ?_
    exact x_zrc E h (by decide) hf dX9_waits_14
set_option maxHeartbeats 4000000 in
set_option maxRecDepth 100000 in
theorem c_X9_canNominate (l : Launch) (D : va_G) (cy : Nat → ClassId) (s00 : State) (ad : Nat → Nat) (S : XS) (r9 : Int32) (hf : f_X9_canNominate S = some r9) : XI l yX9_canNominate cX9_canNominate 1 (some .boolean) 1 D cy s00 shMod ad S [.ref (ad 0)] r9 S := by
  refine XI.of (by decide) [(0, .ref (ad 0))] rfl (Nat.le_of_ble_eq_true rfl) (fun p e s m args below meth c A ls E h hl => ?_)
  unfold f_X9_canNominate at hf
  refine lv_aload_n E.1 E.2.1 dX9_canNominate_0 rfl (lv_at hl 0 rfl) ?_
  refine x_callp E h hl 0 hf (fun r0 hr => c_X9_waits l D cy s00 _ S  r0 hr) m_X9_waits rfl rfl kw1550 rfl rfl (Nat.le_of_ble_eq_true rfl) ⟨by decide, by decide⟩ ⟨Nat.zero_le _, Nat.zero_le _⟩ dX9_canNominate_1 (fun v1 H locs hf h => ?_)
  refine x_brn hf (lv_if_ne (tgt := 31) E.1 E.2.1 dX9_canNominate_4 (by decide)) (fun hf => ?_) (fun hf => ?_)
  · refine lv_iconst (v := 0) E.1 E.2.1 dX9_canNominate_31 (by decide) ?_
    exact x_zrc E h (by decide) hf dX9_canNominate_32
  · refine lv_aload_n E.1 E.2.1 dX9_canNominate_7 rfl (lv_at hl 0 rfl) ?_
    refine x_getr E h 0 0 1 rfl rfl rfl (by decide) xinX9 kw1610 dX9_canNominate_8 ?_
    refine lv_iconst (v := 2) E.1 E.2.1 dX9_canNominate_11 (by decide) ?_
    refine x_iald E h 1 hf rfl dX9_canNominate_12 (fun v2 hf => ?_)
    refine x_br hf (lv_if_le (tgt := 31) E.1 E.2.1 dX9_canNominate_13 (by decide)) (fun hf => ?_) (fun hf => ?_)
    · refine lv_iconst (v := 0) E.1 E.2.1 dX9_canNominate_31 (by decide) ?_
      exact x_zrc E h (by decide) hf dX9_canNominate_32
    · refine lv_aload_n E.1 E.2.1 dX9_canNominate_16 rfl (lv_at hl 0 rfl) ?_
      refine x_getr E h 0 0 1 rfl rfl rfl (by decide) xinX9 kw1610 dX9_canNominate_17 ?_
      refine lv_iconst (v := 2) E.1 E.2.1 dX9_canNominate_20 (by decide) ?_
      refine x_iald E h 1 hf rfl dX9_canNominate_21 (fun v3 hf => ?_)
      refine lv_bipush (v := 8) E.1 E.2.1 dX9_canNominate_22 (by decide) ?_
      refine x_br hf (lv_icmp_ge (tgt := 31) E.1 E.2.1 dX9_canNominate_24 (by decide)) (fun hf => ?_) (fun hf => ?_)
      · refine lv_iconst (v := 0) E.1 E.2.1 dX9_canNominate_31 (by decide) ?_
        exact x_zrc E h (by decide) hf dX9_canNominate_32
      · refine lv_iconst (v := 1) E.1 E.2.1 dX9_canNominate_27 (by decide) ?_
        refine lv_goto (tgt := 32) E.1 E.2.1 dX9_canNominate_28 (by decide) ?_
        exact x_zrc E h (by decide) hf dX9_canNominate_32
set_option maxHeartbeats 4000000 in
set_option maxRecDepth 100000 in
theorem c_X9_nominates (l : Launch) (D : va_G) (cy : Nat → ClassId) (s00 : State) (ad : Nat → Nat) (S : XS) (p0 p1 : Int32) (r9 : Int32) (S9 : XS) (hf : f_X9_nominates S p0 p1 = some (r9, S9)) : XI l yX9_nominates cX9_nominates 3 (some .int) 0 D cy s00 shMod ad S [.ref (ad 0), .int p0, .int p1] r9 S9 := by
  refine XI.of (by decide) [(0, .ref (ad 0)), (1, .int p0), (2, .int p1)] rfl (Nat.le_of_ble_eq_true rfl) (fun p e s m args below meth c A ls E h hl => ?_)
  unfold f_X9_nominates at hf
  refine lv_aload_n E.1 E.2.1 dX9_nominates_0 rfl (lv_at hl 0 rfl) ?_
  refine x_getr E h 0 0 1 rfl rfl rfl (by decide) xinX9 kw1610 dX9_nominates_1 ?_
  refine lv_iconst (v := 4) E.1 E.2.1 dX9_nominates_4 (by decide) ?_
  refine lv_iload_n E.1 E.2.1 dX9_nominates_5 rfl (lv_at hl 1 rfl) ?_
  refine x_iast E h 1 hf rfl dX9_nominates_6 (fun S1 H locs hf h => ?_)
  refine lv_aload_n E.1 E.2.1 dX9_nominates_7 rfl (lv_at hl 0 rfl) ?_
  refine x_getr E h 0 0 1 rfl rfl rfl (by decide) xinX9 kw1610 dX9_nominates_8 ?_
  refine lv_iconst (v := 5) E.1 E.2.1 dX9_nominates_11 (by decide) ?_
  refine lv_iload_n E.1 E.2.1 dX9_nominates_12 rfl (lv_at hl 2 rfl) ?_
  refine x_iast E h 1 hf rfl dX9_nominates_13 (fun S3 H locs hf h => ?_)
  refine lv_aload_n E.1 E.2.1 dX9_nominates_14 rfl (lv_at hl 0 rfl) ?_
  refine x_getr E h 0 0 1 rfl rfl rfl (by decide) xinX9 kw1610 dX9_nominates_15 ?_
  refine lv_bipush (v := 6) E.1 E.2.1 dX9_nominates_18 (by decide) ?_
  refine lv_iconst (v := 0) E.1 E.2.1 dX9_nominates_20 (by decide) ?_
  refine x_iast E h 1 hf rfl dX9_nominates_21 (fun S5 H locs hf h => ?_)
  refine lv_aload_n E.1 E.2.1 dX9_nominates_22 rfl (lv_at hl 0 rfl) ?_
  refine x_getr E h 0 0 1 rfl rfl rfl (by decide) xinX9 kw1610 dX9_nominates_23 ?_
  refine lv_bipush (v := 7) E.1 E.2.1 dX9_nominates_26 (by decide) ?_
  refine lv_iconst (v := 0) E.1 E.2.1 dX9_nominates_28 (by decide) ?_
  refine x_iast E h 1 hf rfl dX9_nominates_29 (fun S7 H locs hf h => ?_)
  refine lv_aload_n E.1 E.2.1 dX9_nominates_30 rfl (lv_at hl 0 rfl) ?_
  refine x_getr E h 0 0 1 rfl rfl rfl (by decide) xinX9 kw1610 dX9_nominates_31 ?_
  refine lv_iconst (v := 2) E.1 E.2.1 dX9_nominates_34 (by decide) ?_
  refine x_iald E h 1 hf rfl dX9_nominates_35 (fun v9 hf => ?_)
  exact x_iret E h hf dX9_nominates_36
set_option maxHeartbeats 4000000 in
set_option maxRecDepth 100000 in
theorem c_X9_readsKitten (l : Launch) (D : va_G) (cy : Nat → ClassId) (s00 : State) (ad : Nat → Nat) (S : XS) (r9 : Int32) (S9 : XS) (hf : f_X9_readsKitten S = some (r9, S9)) : XI l yX9_readsKitten cX9_readsKitten 1 (some .boolean) 4 D cy s00 shMod ad S [.ref (ad 0)] r9 S9 := by
  refine XI.of (by decide) [(0, .ref (ad 0))] rfl (Nat.le_of_ble_eq_true rfl) (fun p e s m args below meth c A ls E h hl => ?_)
  unfold f_X9_readsKitten at hf
  refine lv_aload_n E.1 E.2.1 dX9_readsKitten_0 rfl (lv_at hl 0 rfl) ?_
  refine lv_iconst (v := 0) E.1 E.2.1 dX9_readsKitten_1 (by decide) ?_
  refine x_calli E h hl 0 hf (fun r0 Sq0 hr => c_X9_sizesAt l D cy s00 _ S 0 r0 Sq0 hr) m_X9_sizesAt rfl rfl kw1417 rfl rfl (Nat.le_of_ble_eq_true rfl) ⟨by decide, by decide⟩ ⟨Nat.zero_le _, Nat.zero_le _⟩ dX9_readsKitten_2 (fun v1 S2 H locs hf h => ?_)
  refine x_br hf (lv_if_eq (tgt := 19) E.1 E.2.1 dX9_readsKitten_5 (by decide)) (fun hf => ?_) (fun hf => ?_)
  · refine lv_iconst (v := 0) E.1 E.2.1 dX9_readsKitten_19 (by decide) ?_
    exact x_zic E h (by decide) hf dX9_readsKitten_20
  · refine lv_aload_n E.1 E.2.1 dX9_readsKitten_8 rfl (lv_at hl 0 rfl) ?_
    refine lv_aload_n E.1 E.2.1 dX9_readsKitten_9 rfl (lv_at hl 0 rfl) ?_
    refine x_callp E h hl 0 hf (fun r0 hr => c_X9_canNominate l D cy s00 _ S2  r0 hr) m_X9_canNominate rfl rfl kw1546 rfl rfl (Nat.le_of_ble_eq_true rfl) ⟨by decide, by decide⟩ ⟨Nat.zero_le _, Nat.zero_le _⟩ dX9_readsKitten_10 (fun v3 H locs hf h => ?_)
    refine x_calli E h hl 0 hf (fun r0 Sq0 hr => c_X9_stops l D cy s00 _ S2 v3 r0 Sq0 hr) m_X9_stops rfl rfl kw1389 rfl rfl (Nat.le_of_ble_eq_true rfl) ⟨by decide, by decide⟩ ⟨Nat.zero_le _, Nat.zero_le _⟩ dX9_readsKitten_13 (fun v4 S5 H locs hf h => ?_)
    refine x_brn hf (lv_if_ne (tgt := 21) E.1 E.2.1 dX9_readsKitten_16 (by decide)) (fun hf => ?_) (fun hf => ?_)
    · refine lv_aload_n E.1 E.2.1 dX9_readsKitten_21 rfl (lv_at hl 0 rfl) ?_
      refine lv_aload_n E.1 E.2.1 dX9_readsKitten_22 rfl (lv_at hl 0 rfl) ?_
      refine x_getr E h 0 22 10 rfl rfl rfl (by decide) xinX9 kw1632 dX9_readsKitten_23 ?_
      refine lv_iconst (v := 0) E.1 E.2.1 dX9_readsKitten_26 (by decide) ?_
      refine x_iald E h 10 hf rfl dX9_readsKitten_27 (fun v6 hf => ?_)
      refine lv_aload_n E.1 E.2.1 dX9_readsKitten_28 rfl (lv_at hl 0 rfl) ?_
      refine x_getr E h 0 22 10 rfl rfl rfl (by decide) xinX9 kw1632 dX9_readsKitten_29 ?_
      refine lv_iconst (v := 1) E.1 E.2.1 dX9_readsKitten_32 (by decide) ?_
      refine x_iald E h 10 hf rfl dX9_readsKitten_33 (fun v7 hf => ?_)
      refine x_calli E h hl 0 hf (fun r0 Sq0 hr => c_X9_nominates l D cy s00 _ S5 v6 v7 r0 Sq0 hr) m_X9_nominates rfl rfl kw1554 rfl rfl (Nat.le_of_ble_eq_true rfl) ⟨by decide, by decide⟩ ⟨Nat.zero_le _, Nat.zero_le _⟩ dX9_readsKitten_34 (fun v8 S9 H locs hf h => ?_)
      refine lv_pop E.1 E.2.1 dX9_readsKitten_37 rfl ?_
      refine lv_iconst (v := 1) E.1 E.2.1 dX9_readsKitten_38 (by decide) ?_
      exact x_zic E h (by decide) hf dX9_readsKitten_39
    · refine lv_iconst (v := 0) E.1 E.2.1 dX9_readsKitten_19 (by decide) ?_
      exact x_zic E h (by decide) hf dX9_readsKitten_20
set_option maxHeartbeats 4000000 in
set_option maxRecDepth 100000 in
theorem c_X9_canVote (l : Launch) (D : va_G) (cy : Nat → ClassId) (s00 : State) (ad : Nat → Nat) (S : XS) (p0 : Int32) (r9 : Int32) (hf : f_X9_canVote S p0 = some r9) : XI l yX9_canVote cX9_canVote 2 (some .boolean) 1 D cy s00 shMod ad S [.ref (ad 0), .int p0] r9 S := by
  refine XI.of (by decide) [(0, .ref (ad 0)), (1, .int p0)] rfl (Nat.le_of_ble_eq_true rfl) (fun p e s m args below meth c A ls E h hl => ?_)
  unfold f_X9_canVote at hf
  refine lv_aload_n E.1 E.2.1 dX9_canVote_0 rfl (lv_at hl 0 rfl) ?_
  refine x_callp E h hl 0 hf (fun r0 hr => c_X9_waits l D cy s00 _ S  r0 hr) m_X9_waits rfl rfl kw1550 rfl rfl (Nat.le_of_ble_eq_true rfl) ⟨by decide, by decide⟩ ⟨Nat.zero_le _, Nat.zero_le _⟩ dX9_canVote_1 (fun v1 H locs hf h => ?_)
  refine x_br hf (lv_if_eq (tgt := 25) E.1 E.2.1 dX9_canVote_4 (by decide)) (fun hf => ?_) (fun hf => ?_)
  · refine lv_iconst (v := 0) E.1 E.2.1 dX9_canVote_25 (by decide) ?_
    exact x_zrc E h (by decide) hf dX9_canVote_26
  · refine lv_aload_n E.1 E.2.1 dX9_canVote_7 rfl (lv_at hl 0 rfl) ?_
    refine x_getr E h 0 0 1 rfl rfl rfl (by decide) xinX9 kw1610 dX9_canVote_8 ?_
    refine lv_bipush (v := 6) E.1 E.2.1 dX9_canVote_11 (by decide) ?_
    refine x_iald E h 1 hf rfl dX9_canVote_13 (fun v2 hf => ?_)
    refine lv_iload_n E.1 E.2.1 dX9_canVote_14 rfl (lv_at hl 1 rfl) ?_
    refine lv_ishr E.1 E.2.1 dX9_canVote_15 ?_
    refine lv_iconst (v := 1) E.1 E.2.1 dX9_canVote_16 (by decide) ?_
    refine lv_iand E.1 E.2.1 dX9_canVote_17 ?_
    refine x_brn hf (lv_if_ne (tgt := 25) E.1 E.2.1 dX9_canVote_18 (by decide)) (fun hf => ?_) (fun hf => ?_)
    · refine lv_iconst (v := 0) E.1 E.2.1 dX9_canVote_25 (by decide) ?_
      exact x_zrc E h (by decide) hf dX9_canVote_26
    · refine lv_iconst (v := 1) E.1 E.2.1 dX9_canVote_21 (by decide) ?_
      refine lv_goto (tgt := 26) E.1 E.2.1 dX9_canVote_22 (by decide) ?_
      exact x_zrc E h (by decide) hf dX9_canVote_26
set_option maxHeartbeats 4000000 in
set_option maxRecDepth 100000 in
theorem w_X9_warmestPlace_L4 {p : Program} {l : Launch} {e : Env} {s : State} {m : MethodId} {args : Array Value} {below : List Frame} {meth : Method} {c : Code} {D : va_G} {cy : Nat → ClassId} {s00 : State} {ad : Nat → Nat} {A : Nat → Prop}  {r9 : Int32}  {S : XS} {K : Int32 → Int32 → Option (Int32)} (E : XE p s m args meth c cX9_warmestPlace 3 RX9 (some .int) D cy s00) (hk : ∀ (m1 m2 : Int32) (H : Heap) (locs : List Loc) (ls : Array Slot), K m1 m2 = some r9 → XH D cy s00 shMod ad S A s H locs → lv_has ls 3 [(0, .ref (ad 0)), (1, .int m1), (2, .int m2)] → W p l e (xrm 2) s m args below meth c H locs 0 0 (MQ below (xqi D cy shMod ad r9 S A) args s 0 0 A) (F0 m 57 ls [])) :
    ∀ (n : Nat) (m1 m2 : Int32) (H : Heap) (locs : List Loc) (ls : Array Slot), f_X9_warmestPlace_L4 K S n m1 m2 = some r9 → XH D cy s00 shMod ad S A s H locs → lv_has ls 3 [(0, .ref (ad 0)), (1, .int m1), (2, .int m2)] → W p l e (xrm 2) s m args below meth c H locs 0 0 (MQ below (xqi D cy shMod ad r9 S A) args s 0 0 A) (F0 m 4 ls []) := by
  intro n
  induction n with
  | zero => intro m1 m2 H locs ls hf; cases hf
  | succ n ih =>
    intro m1 m2 H locs ls hf h hl
    rw [f_X9_warmestPlace_L4] at hf
    refine lv_iload_n E.1 E.2.1 dX9_warmestPlace_4 rfl (lv_at hl 2 rfl) ?_
    refine lv_aload_n E.1 E.2.1 dX9_warmestPlace_5 rfl (lv_at hl 0 rfl) ?_
    refine x_getr E h 0 0 1 rfl rfl rfl (by decide) xinX9 kw1610 dX9_warmestPlace_6 ?_
    refine lv_iconst (v := 0) E.1 E.2.1 dX9_warmestPlace_9 (by decide) ?_
    refine x_iald E h 1 hf rfl dX9_warmestPlace_10 (fun v1 hf => ?_)
    refine x_br hf (lv_icmp_ge (tgt := 57) E.1 E.2.1 dX9_warmestPlace_11 (by decide)) (fun hf => ?_) (fun hf => ?_)
    · exact hk _ _ _ _ _ hf h (lv_sub hl [0, 1, 2] rfl)
    · refine lv_aload_n E.1 E.2.1 dX9_warmestPlace_14 rfl (lv_at hl 0 rfl) ?_
      refine lv_iload_n E.1 E.2.1 dX9_warmestPlace_15 rfl (lv_at hl 2 rfl) ?_
      refine x_callp E h hl 0 hf (fun r0 hr => c_X9_sitter l D cy s00 _ S m2 r0 hr) m_X9_sitter rfl rfl kw1425 rfl rfl (Nat.le_of_ble_eq_true rfl) ⟨by decide, by decide⟩ ⟨Nat.zero_le _, Nat.zero_le _⟩ dX9_warmestPlace_16 (fun v2 H locs hf h => ?_)
      refine lv_iconst (v := (-1)) E.1 E.2.1 dX9_warmestPlace_19 (by decide) ?_
      refine x_brn hf (lv_icmp_ne (tgt := 51) E.1 E.2.1 dX9_warmestPlace_20 (by decide)) (fun hf => ?_) (fun hf => ?_)
      · refine x_nv hf (fun v3 e9 hf => ?_)
        refine lv_iinc (v := v3) (lv' := [(2, .int v3), (0, .ref (ad 0)), (1, .int m1)]) E.1 E.2.1 dX9_warmestPlace_51 hl (k := 2) rfl (by rw [e9]; rfl) (by decide) rfl (fun ls hl => ?_)
        refine lv_goto (tgt := 4) E.1 E.2.1 dX9_warmestPlace_54 (by decide) ?_
        exact ih _ _ _ _ _ hf h (lv_sub hl [1, 2, 0] rfl)
      · refine lv_iload_n E.1 E.2.1 dX9_warmestPlace_23 rfl (lv_at hl 1 rfl) ?_
        refine lv_iconst (v := (-1)) E.1 E.2.1 dX9_warmestPlace_24 (by decide) ?_
        refine x_br hf (lv_icmp_eq (tgt := 49) E.1 E.2.1 dX9_warmestPlace_25 (by decide)) (fun hf => ?_) (fun hf => ?_)
        · refine lv_iload_n E.1 E.2.1 dX9_warmestPlace_49 rfl (lv_at hl 2 rfl) ?_
          refine lv_istore_n (lv' := [(1, .int m2), (0, .ref (ad 0)), (2, .int m2)]) E.1 E.2.1 dX9_warmestPlace_50 rfl hl (by decide) rfl (fun ls hl => ?_)
          refine x_nv hf (fun v4 e9 hf => ?_)
          refine lv_iinc (v := v4) (lv' := [(2, .int v4), (1, .int m2), (0, .ref (ad 0))]) E.1 E.2.1 dX9_warmestPlace_51 hl (k := 2) rfl (by rw [e9]; rfl) (by decide) rfl (fun ls hl => ?_)
          refine lv_goto (tgt := 4) E.1 E.2.1 dX9_warmestPlace_54 (by decide) ?_
          exact ih _ _ _ _ _ hf h (lv_sub hl [2, 1, 0] rfl)
        · refine lv_aload_n E.1 E.2.1 dX9_warmestPlace_28 rfl (lv_at hl 0 rfl) ?_
          refine x_getr E h 0 0 1 rfl rfl rfl (by decide) xinX9 kw1610 dX9_warmestPlace_29 ?_
          refine lv_bipush (v := 10) E.1 E.2.1 dX9_warmestPlace_32 (by decide) ?_
          refine lv_iload_n E.1 E.2.1 dX9_warmestPlace_34 rfl (lv_at hl 2 rfl) ?_
          refine lv_iadd E.1 E.2.1 dX9_warmestPlace_35 ?_
          refine x_iald E h 1 hf rfl dX9_warmestPlace_36 (fun v5 hf => ?_)
          refine lv_aload_n E.1 E.2.1 dX9_warmestPlace_37 rfl (lv_at hl 0 rfl) ?_
          refine x_getr E h 0 0 1 rfl rfl rfl (by decide) xinX9 kw1610 dX9_warmestPlace_38 ?_
          refine lv_bipush (v := 10) E.1 E.2.1 dX9_warmestPlace_41 (by decide) ?_
          refine lv_iload_n E.1 E.2.1 dX9_warmestPlace_43 rfl (lv_at hl 1 rfl) ?_
          refine lv_iadd E.1 E.2.1 dX9_warmestPlace_44 ?_
          refine x_iald E h 1 hf rfl dX9_warmestPlace_45 (fun v6 hf => ?_)
          refine x_br hf (lv_icmp_le (tgt := 51) E.1 E.2.1 dX9_warmestPlace_46 (by decide)) (fun hf => ?_) (fun hf => ?_)
          · refine x_nv hf (fun v7 e9 hf => ?_)
            refine lv_iinc (v := v7) (lv' := [(2, .int v7), (0, .ref (ad 0)), (1, .int m1)]) E.1 E.2.1 dX9_warmestPlace_51 hl (k := 2) rfl (by rw [e9]; rfl) (by decide) rfl (fun ls hl => ?_)
            refine lv_goto (tgt := 4) E.1 E.2.1 dX9_warmestPlace_54 (by decide) ?_
            exact ih _ _ _ _ _ hf h (lv_sub hl [1, 2, 0] rfl)
          · refine lv_iload_n E.1 E.2.1 dX9_warmestPlace_49 rfl (lv_at hl 2 rfl) ?_
            refine lv_istore_n (lv' := [(1, .int m2), (0, .ref (ad 0)), (2, .int m2)]) E.1 E.2.1 dX9_warmestPlace_50 rfl hl (by decide) rfl (fun ls hl => ?_)
            refine x_nv hf (fun v8 e9 hf => ?_)
            refine lv_iinc (v := v8) (lv' := [(2, .int v8), (1, .int m2), (0, .ref (ad 0))]) E.1 E.2.1 dX9_warmestPlace_51 hl (k := 2) rfl (by rw [e9]; rfl) (by decide) rfl (fun ls hl => ?_)
            refine lv_goto (tgt := 4) E.1 E.2.1 dX9_warmestPlace_54 (by decide) ?_
            exact ih _ _ _ _ _ hf h (lv_sub hl [2, 1, 0] rfl)
set_option maxHeartbeats 4000000 in
set_option maxRecDepth 100000 in
theorem c_X9_warmestPlace (l : Launch) (D : va_G) (cy : Nat → ClassId) (s00 : State) (ad : Nat → Nat) (S : XS) (r9 : Int32) (hf : f_X9_warmestPlace S = some r9) : XI l yX9_warmestPlace cX9_warmestPlace 3 (some .int) 2 D cy s00 shMod ad S [.ref (ad 0)] r9 S := by
  refine XI.of (by decide) [(0, .ref (ad 0))] rfl (Nat.le_of_ble_eq_true rfl) (fun p e s m args below meth c A ls E h hl => ?_)
  unfold f_X9_warmestPlace at hf
  refine lv_iconst (v := (-1)) E.1 E.2.1 dX9_warmestPlace_0 (by decide) ?_
  refine lv_istore_n (lv' := [(1, .int (-1)), (0, .ref (ad 0))]) E.1 E.2.1 dX9_warmestPlace_1 rfl hl (by decide) rfl (fun ls hl => ?_)
  refine lv_iconst (v := 0) E.1 E.2.1 dX9_warmestPlace_2 (by decide) ?_
  refine lv_istore_n (lv' := [(2, .int 0), (1, .int (-1)), (0, .ref (ad 0))]) E.1 E.2.1 dX9_warmestPlace_3 rfl hl (by decide) rfl (fun ls hl => ?_)
  refine w_X9_warmestPlace_L4 E ?_ _ _ _ _ _ _ hf h (lv_sub hl [2, 1, 0] rfl)
  intro v9 v10 H locs ls hf h hl
  refine lv_iload_n E.1 E.2.1 dX9_warmestPlace_57 rfl (lv_at hl 1 rfl) ?_
  exact x_irp E h hf dX9_warmestPlace_58
set_option maxHeartbeats 4000000 in
set_option maxRecDepth 100000 in
theorem w_X9_bits_L4 {p : Program} {l : Launch} {e : Env} {s : State} {m : MethodId} {args : Array Value} {below : List Frame} {meth : Method} {c : Code} {D : va_G} {cy : Nat → ClassId} {s00 : State} {ad : Nat → Nat} {A : Nat → Prop}  {r9 : Int32} {u0 : Int32} {S : XS} {K : Int32 → Int32 → Option (Int32)} (E : XE p s m args meth c cX9_bits 3 RX9 (some .int) D cy s00) (hk : ∀ (m1 m2 : Int32) (H : Heap) (locs : List Loc) (ls : Array Slot), K m1 m2 = some r9 → XH D cy s00 [] ad S A s H locs → lv_has ls 3 [(0, .int u0), (1, .int m1), (2, .int m2)] → W p l e (xrm 0) s m args below meth c H locs 0 0 (MQ below (xqi D cy [] ad r9 S A) args s 0 0 A) (F0 m 21 ls [])) :
    ∀ (n : Nat) (m1 m2 : Int32) (H : Heap) (locs : List Loc) (ls : Array Slot), f_X9_bits_L4 K u0 n m1 m2 = some r9 → XH D cy s00 [] ad S A s H locs → lv_has ls 3 [(0, .int u0), (1, .int m1), (2, .int m2)] → W p l e (xrm 0) s m args below meth c H locs 0 0 (MQ below (xqi D cy [] ad r9 S A) args s 0 0 A) (F0 m 4 ls []) := by
  intro n
  induction n with
  | zero => intro m1 m2 H locs ls hf; cases hf
  | succ n ih =>
    intro m1 m2 H locs ls hf h hl
    rw [f_X9_bits_L4] at hf
    refine lv_iload_n E.1 E.2.1 dX9_bits_4 rfl (lv_at hl 2 rfl) ?_
    refine x_br hf (lv_if_le (tgt := 21) E.1 E.2.1 dX9_bits_5 (by decide)) (fun hf => ?_) (fun hf => ?_)
    · exact hk _ _ _ _ _ hf h (lv_sub hl [0, 1, 2] rfl)
    · refine lv_iload_n E.1 E.2.1 dX9_bits_8 rfl (lv_at hl 1 rfl) ?_
      refine lv_iload_n E.1 E.2.1 dX9_bits_9 rfl (lv_at hl 2 rfl) ?_
      refine lv_iconst (v := 2) E.1 E.2.1 dX9_bits_10 (by decide) ?_
      refine lv_irem E.1 E.2.1 dX9_bits_11 (by decide) ?_
      refine lv_iadd E.1 E.2.1 dX9_bits_12 ?_
      refine x_nm hf (fun v1 hf => ?_)
      refine lv_istore_n (lv' := [(1, .int v1), (0, .int u0), (2, .int m2)]) E.1 E.2.1 dX9_bits_13 rfl hl (by decide) rfl (fun ls hl => ?_)
      refine lv_iload_n E.1 E.2.1 dX9_bits_14 rfl (lv_at hl 2 rfl) ?_
      refine lv_iconst (v := 2) E.1 E.2.1 dX9_bits_15 (by decide) ?_
      refine lv_idiv E.1 E.2.1 dX9_bits_16 (by decide) ?_
      refine x_nm hf (fun v2 hf => ?_)
      refine lv_istore_n (lv' := [(2, .int v2), (1, .int v1), (0, .int u0)]) E.1 E.2.1 dX9_bits_17 rfl hl (by decide) rfl (fun ls hl => ?_)
      refine lv_goto (tgt := 4) E.1 E.2.1 dX9_bits_18 (by decide) ?_
      exact ih _ _ _ _ _ hf h (lv_sub hl [2, 1, 0] rfl)
set_option maxHeartbeats 4000000 in
set_option maxRecDepth 100000 in
theorem c_X9_bits (l : Launch) (D : va_G) (cy : Nat → ClassId) (s00 : State) (ad : Nat → Nat) (S : XS) (p0 : Int32) (r9 : Int32) (hf : f_X9_bits p0 = some r9) : XI l yX9_bits cX9_bits 3 (some .int) 0 D cy s00 [] ad S [.int p0] r9 S := by
  refine XI.of (by decide) [(0, .int p0)] rfl (Nat.le_of_ble_eq_true rfl) (fun p e s m args below meth c A ls E h hl => ?_)
  unfold f_X9_bits at hf
  refine lv_iconst (v := 0) E.1 E.2.1 dX9_bits_0 (by decide) ?_
  refine lv_istore_n (lv' := [(1, .int 0), (0, .int p0)]) E.1 E.2.1 dX9_bits_1 rfl hl (by decide) rfl (fun ls hl => ?_)
  refine lv_iload_n E.1 E.2.1 dX9_bits_2 rfl (lv_at hl 1 rfl) ?_
  refine lv_istore_n (lv' := [(2, .int p0), (1, .int 0), (0, .int p0)]) E.1 E.2.1 dX9_bits_3 rfl hl (by decide) rfl (fun ls hl => ?_)
  refine w_X9_bits_L4 E ?_ _ _ _ _ _ _ hf h (lv_sub hl [2, 1, 0] rfl)
  intro v3 v4 H locs ls hf h hl
  refine lv_iload_n E.1 E.2.1 dX9_bits_21 rfl (lv_at hl 1 rfl) ?_
  exact x_irp E h hf dX9_bits_22
set_option maxHeartbeats 4000000 in
set_option maxRecDepth 100000 in
theorem c_X9_decides (l : Launch) (D : va_G) (cy : Nat → ClassId) (s00 : State) (ad : Nat → Nat) (S : XS) (r9 : Int32) (S9 : XS) (hf : f_X9_decides S = some (r9, S9)) : XI l yX9_decides cX9_decides 3 (some .boolean) 3 D cy s00 shMod ad S [.ref (ad 0)] r9 S9 := by
  refine XI.of (by decide) [(0, .ref (ad 0))] rfl (Nat.le_of_ble_eq_true rfl) (fun p e s m args below meth c A ls E h hl => ?_)
  unfold f_X9_decides at hf
  refine lv_aload_n E.1 E.2.1 dX9_decides_0 rfl (lv_at hl 0 rfl) ?_
  refine x_callp E h hl 0 hf (fun r0 hr => c_X9_warmestPlace l D cy s00 _ S  r0 hr) m_X9_warmestPlace rfl rfl kw1574 rfl rfl (Nat.le_of_ble_eq_true rfl) ⟨by decide, by decide⟩ ⟨Nat.zero_le _, Nat.zero_le _⟩ dX9_decides_1 (fun v1 H locs hf h => ?_)
  refine lv_istore_n (lv' := [(1, .int v1), (0, .ref (ad 0))]) E.1 E.2.1 dX9_decides_4 rfl hl (by decide) rfl (fun ls hl => ?_)
  refine lv_iconst (v := 2) E.1 E.2.1 dX9_decides_5 (by decide) ?_
  refine lv_aload_n E.1 E.2.1 dX9_decides_6 rfl (lv_at hl 1 rfl) ?_
  refine x_getr E h 0 0 1 rfl rfl rfl (by decide) xinX9 kw1610 dX9_decides_7 ?_
  refine lv_bipush (v := 7) E.1 E.2.1 dX9_decides_10 (by decide) ?_
  refine x_iald E h 1 hf rfl dX9_decides_12 (fun v2 hf => ?_)
  refine x_callsp E h hl hf (fun r0 hr => c_X9_bits l D cy s00 _ _ v2 r0 hr) m_X9_bits kw1578 rfl rfl (Nat.le_of_ble_eq_true rfl) ⟨by decide, by decide⟩ ⟨Nat.zero_le _, Nat.zero_le _⟩ dX9_decides_13 (fun v3 H locs hf h => ?_)
  refine lv_imul E.1 E.2.1 dX9_decides_16 ?_
  refine lv_aload_n E.1 E.2.1 dX9_decides_17 rfl (lv_at hl 1 rfl) ?_
  refine x_getr E h 0 0 1 rfl rfl rfl (by decide) xinX9 kw1610 dX9_decides_18 ?_
  refine lv_bipush (v := 6) E.1 E.2.1 dX9_decides_21 (by decide) ?_
  refine x_iald E h 1 hf rfl dX9_decides_23 (fun v4 hf => ?_)
  refine x_callsp E h hl hf (fun r0 hr => c_X9_bits l D cy s00 _ _ v4 r0 hr) m_X9_bits kw1578 rfl rfl (Nat.le_of_ble_eq_true rfl) ⟨by decide, by decide⟩ ⟨Nat.zero_le _, Nat.zero_le _⟩ dX9_decides_24 (fun v5 H locs hf h => ?_)
  refine x_br hf (lv_icmp_le (tgt := 50) E.1 E.2.1 dX9_decides_27 (by decide)) (fun hf => ?_) (fun hf => ?_)
  · refine lv_iconst (v := 0) E.1 E.2.1 dX9_decides_50 (by decide) ?_
    refine lv_istore_n (lv' := [(2, .int 0), (1, .int v1), (0, .ref (ad 0))]) E.1 E.2.1 dX9_decides_51 rfl hl (by decide) rfl (fun ls hl => ?_)
    refine lv_iload_n E.1 E.2.1 dX9_decides_52 rfl (lv_at hl 0 rfl) ?_
    refine lv_if_eq (tgt := 74) E.1 E.2.1 dX9_decides_53 (by decide) (fun _ => ?_) (fun c9 => absurd c9 (by decide))
    refine lv_aload_n E.1 E.2.1 dX9_decides_74 rfl (lv_at hl 2 rfl) ?_
    refine x_getr E h 0 0 1 rfl rfl rfl (by decide) xinX9 kw1610 dX9_decides_75 ?_
    refine lv_iconst (v := 4) E.1 E.2.1 dX9_decides_78 (by decide) ?_
    refine lv_iconst (v := 0) E.1 E.2.1 dX9_decides_79 (by decide) ?_
    refine x_iast E h 1 hf rfl dX9_decides_80 (fun S6 H locs hf h => ?_)
    refine lv_aload_n E.1 E.2.1 dX9_decides_81 rfl (lv_at hl 2 rfl) ?_
    refine x_getr E h 0 0 1 rfl rfl rfl (by decide) xinX9 kw1610 dX9_decides_82 ?_
    refine lv_iconst (v := 5) E.1 E.2.1 dX9_decides_85 (by decide) ?_
    refine lv_iconst (v := 0) E.1 E.2.1 dX9_decides_86 (by decide) ?_
    refine x_iast E h 1 hf rfl dX9_decides_87 (fun S8 H locs hf h => ?_)
    refine lv_aload_n E.1 E.2.1 dX9_decides_88 rfl (lv_at hl 2 rfl) ?_
    refine x_getr E h 0 0 1 rfl rfl rfl (by decide) xinX9 kw1610 dX9_decides_89 ?_
    refine lv_bipush (v := 6) E.1 E.2.1 dX9_decides_92 (by decide) ?_
    refine lv_iconst (v := 0) E.1 E.2.1 dX9_decides_94 (by decide) ?_
    refine x_iast E h 1 hf rfl dX9_decides_95 (fun S10 H locs hf h => ?_)
    refine lv_aload_n E.1 E.2.1 dX9_decides_96 rfl (lv_at hl 2 rfl) ?_
    refine x_getr E h 0 0 1 rfl rfl rfl (by decide) xinX9 kw1610 dX9_decides_97 ?_
    refine lv_bipush (v := 7) E.1 E.2.1 dX9_decides_100 (by decide) ?_
    refine lv_iconst (v := 0) E.1 E.2.1 dX9_decides_102 (by decide) ?_
    refine x_iast E h 1 hf rfl dX9_decides_103 (fun S12 H locs hf h => ?_)
    refine lv_iload_n E.1 E.2.1 dX9_decides_104 rfl (lv_at hl 0 rfl) ?_
    exact x_zic E h (by decide) hf dX9_decides_105
  · refine lv_aload_n E.1 E.2.1 dX9_decides_30 rfl (lv_at hl 1 rfl) ?_
    refine x_getr E h 0 0 1 rfl rfl rfl (by decide) xinX9 kw1610 dX9_decides_31 ?_
    refine lv_iconst (v := 2) E.1 E.2.1 dX9_decides_34 (by decide) ?_
    refine x_iald E h 1 hf rfl dX9_decides_35 (fun v14 hf => ?_)
    refine lv_bipush (v := 8) E.1 E.2.1 dX9_decides_36 (by decide) ?_
    refine x_br hf (lv_icmp_ge (tgt := 50) E.1 E.2.1 dX9_decides_38 (by decide)) (fun hf => ?_) (fun hf => ?_)
    · refine lv_iconst (v := 0) E.1 E.2.1 dX9_decides_50 (by decide) ?_
      refine lv_istore_n (lv' := [(2, .int 0), (1, .int v1), (0, .ref (ad 0))]) E.1 E.2.1 dX9_decides_51 rfl hl (by decide) rfl (fun ls hl => ?_)
      refine lv_iload_n E.1 E.2.1 dX9_decides_52 rfl (lv_at hl 0 rfl) ?_
      refine lv_if_eq (tgt := 74) E.1 E.2.1 dX9_decides_53 (by decide) (fun _ => ?_) (fun c9 => absurd c9 (by decide))
      refine lv_aload_n E.1 E.2.1 dX9_decides_74 rfl (lv_at hl 2 rfl) ?_
      refine x_getr E h 0 0 1 rfl rfl rfl (by decide) xinX9 kw1610 dX9_decides_75 ?_
      refine lv_iconst (v := 4) E.1 E.2.1 dX9_decides_78 (by decide) ?_
      refine lv_iconst (v := 0) E.1 E.2.1 dX9_decides_79 (by decide) ?_
      refine x_iast E h 1 hf rfl dX9_decides_80 (fun S15 H locs hf h => ?_)
      refine lv_aload_n E.1 E.2.1 dX9_decides_81 rfl (lv_at hl 2 rfl) ?_
      refine x_getr E h 0 0 1 rfl rfl rfl (by decide) xinX9 kw1610 dX9_decides_82 ?_
      refine lv_iconst (v := 5) E.1 E.2.1 dX9_decides_85 (by decide) ?_
      refine lv_iconst (v := 0) E.1 E.2.1 dX9_decides_86 (by decide) ?_
      refine x_iast E h 1 hf rfl dX9_decides_87 (fun S17 H locs hf h => ?_)
      refine lv_aload_n E.1 E.2.1 dX9_decides_88 rfl (lv_at hl 2 rfl) ?_
      refine x_getr E h 0 0 1 rfl rfl rfl (by decide) xinX9 kw1610 dX9_decides_89 ?_
      refine lv_bipush (v := 6) E.1 E.2.1 dX9_decides_92 (by decide) ?_
      refine lv_iconst (v := 0) E.1 E.2.1 dX9_decides_94 (by decide) ?_
      refine x_iast E h 1 hf rfl dX9_decides_95 (fun S19 H locs hf h => ?_)
      refine lv_aload_n E.1 E.2.1 dX9_decides_96 rfl (lv_at hl 2 rfl) ?_
      refine x_getr E h 0 0 1 rfl rfl rfl (by decide) xinX9 kw1610 dX9_decides_97 ?_
      refine lv_bipush (v := 7) E.1 E.2.1 dX9_decides_100 (by decide) ?_
      refine lv_iconst (v := 0) E.1 E.2.1 dX9_decides_102 (by decide) ?_
      refine x_iast E h 1 hf rfl dX9_decides_103 (fun S21 H locs hf h => ?_)
      refine lv_iload_n E.1 E.2.1 dX9_decides_104 rfl (lv_at hl 0 rfl) ?_
      exact x_zic E h (by decide) hf dX9_decides_105
    · refine lv_iload_n E.1 E.2.1 dX9_decides_41 rfl (lv_at hl 0 rfl) ?_
      refine lv_iconst (v := (-1)) E.1 E.2.1 dX9_decides_42 (by decide) ?_
      refine x_br hf (lv_icmp_eq (tgt := 50) E.1 E.2.1 dX9_decides_43 (by decide)) (fun hf => ?_) (fun hf => ?_)
      · refine lv_iconst (v := 0) E.1 E.2.1 dX9_decides_50 (by decide) ?_
        refine lv_istore_n (lv' := [(2, .int 0), (1, .int v1), (0, .ref (ad 0))]) E.1 E.2.1 dX9_decides_51 rfl hl (by decide) rfl (fun ls hl => ?_)
        refine lv_iload_n E.1 E.2.1 dX9_decides_52 rfl (lv_at hl 0 rfl) ?_
        refine lv_if_eq (tgt := 74) E.1 E.2.1 dX9_decides_53 (by decide) (fun _ => ?_) (fun c9 => absurd c9 (by decide))
        refine lv_aload_n E.1 E.2.1 dX9_decides_74 rfl (lv_at hl 2 rfl) ?_
        refine x_getr E h 0 0 1 rfl rfl rfl (by decide) xinX9 kw1610 dX9_decides_75 ?_
        refine lv_iconst (v := 4) E.1 E.2.1 dX9_decides_78 (by decide) ?_
        refine lv_iconst (v := 0) E.1 E.2.1 dX9_decides_79 (by decide) ?_
        refine x_iast E h 1 hf rfl dX9_decides_80 (fun S23 H locs hf h => ?_)
        refine lv_aload_n E.1 E.2.1 dX9_decides_81 rfl (lv_at hl 2 rfl) ?_
        refine x_getr E h 0 0 1 rfl rfl rfl (by decide) xinX9 kw1610 dX9_decides_82 ?_
        refine lv_iconst (v := 5) E.1 E.2.1 dX9_decides_85 (by decide) ?_
        refine lv_iconst (v := 0) E.1 E.2.1 dX9_decides_86 (by decide) ?_
        refine x_iast E h 1 hf rfl dX9_decides_87 (fun S25 H locs hf h => ?_)
        refine lv_aload_n E.1 E.2.1 dX9_decides_88 rfl (lv_at hl 2 rfl) ?_
        refine x_getr E h 0 0 1 rfl rfl rfl (by decide) xinX9 kw1610 dX9_decides_89 ?_
        refine lv_bipush (v := 6) E.1 E.2.1 dX9_decides_92 (by decide) ?_
        refine lv_iconst (v := 0) E.1 E.2.1 dX9_decides_94 (by decide) ?_
        refine x_iast E h 1 hf rfl dX9_decides_95 (fun S27 H locs hf h => ?_)
        refine lv_aload_n E.1 E.2.1 dX9_decides_96 rfl (lv_at hl 2 rfl) ?_
        refine x_getr E h 0 0 1 rfl rfl rfl (by decide) xinX9 kw1610 dX9_decides_97 ?_
        refine lv_bipush (v := 7) E.1 E.2.1 dX9_decides_100 (by decide) ?_
        refine lv_iconst (v := 0) E.1 E.2.1 dX9_decides_102 (by decide) ?_
        refine x_iast E h 1 hf rfl dX9_decides_103 (fun S29 H locs hf h => ?_)
        refine lv_iload_n E.1 E.2.1 dX9_decides_104 rfl (lv_at hl 0 rfl) ?_
        exact x_zic E h (by decide) hf dX9_decides_105
      · refine lv_iconst (v := 1) E.1 E.2.1 dX9_decides_46 (by decide) ?_
        refine lv_goto (tgt := 51) E.1 E.2.1 dX9_decides_47 (by decide) ?_
        refine lv_istore_n (lv' := [(2, .int 1), (1, .int v1), (0, .ref (ad 0))]) E.1 E.2.1 dX9_decides_51 rfl hl (by decide) rfl (fun ls hl => ?_)
        refine lv_iload_n E.1 E.2.1 dX9_decides_52 rfl (lv_at hl 0 rfl) ?_
        refine lv_if_eq (tgt := 74) E.1 E.2.1 dX9_decides_53 (by decide) (fun c9 => absurd c9 (by decide)) (fun _ => ?_)
        refine lv_aload_n E.1 E.2.1 dX9_decides_56 rfl (lv_at hl 2 rfl) ?_
        refine lv_iload_n E.1 E.2.1 dX9_decides_57 rfl (lv_at hl 1 rfl) ?_
        refine lv_aload_n E.1 E.2.1 dX9_decides_58 rfl (lv_at hl 2 rfl) ?_
        refine x_getr E h 0 0 1 rfl rfl rfl (by decide) xinX9 kw1610 dX9_decides_59 ?_
        refine lv_iconst (v := 4) E.1 E.2.1 dX9_decides_62 (by decide) ?_
        refine x_iald E h 1 hf rfl dX9_decides_63 (fun v31 hf => ?_)
        refine lv_aload_n E.1 E.2.1 dX9_decides_64 rfl (lv_at hl 2 rfl) ?_
        refine x_getr E h 0 0 1 rfl rfl rfl (by decide) xinX9 kw1610 dX9_decides_65 ?_
        refine lv_iconst (v := 5) E.1 E.2.1 dX9_decides_68 (by decide) ?_
        refine x_iald E h 1 hf rfl dX9_decides_69 (fun v32 hf => ?_)
        refine x_calli E h hl 0 hf (fun r0 Sq0 hr => c_X9_enters l D cy s00 _ S v1 v31 v32 r0 Sq0 hr) m_X9_enters rfl rfl kw1433 rfl rfl (Nat.le_of_ble_eq_true rfl) ⟨by decide, by decide⟩ ⟨Nat.zero_le _, Nat.zero_le _⟩ dX9_decides_70 (fun v33 S34 H locs hf h => ?_)
        refine lv_pop E.1 E.2.1 dX9_decides_73 rfl ?_
        refine lv_aload_n E.1 E.2.1 dX9_decides_74 rfl (lv_at hl 2 rfl) ?_
        refine x_getr E h 0 0 1 rfl rfl rfl (by decide) xinX9 kw1610 dX9_decides_75 ?_
        refine lv_iconst (v := 4) E.1 E.2.1 dX9_decides_78 (by decide) ?_
        refine lv_iconst (v := 0) E.1 E.2.1 dX9_decides_79 (by decide) ?_
        refine x_iast E h 1 hf rfl dX9_decides_80 (fun S35 H locs hf h => ?_)
        refine lv_aload_n E.1 E.2.1 dX9_decides_81 rfl (lv_at hl 2 rfl) ?_
        refine x_getr E h 0 0 1 rfl rfl rfl (by decide) xinX9 kw1610 dX9_decides_82 ?_
        refine lv_iconst (v := 5) E.1 E.2.1 dX9_decides_85 (by decide) ?_
        refine lv_iconst (v := 0) E.1 E.2.1 dX9_decides_86 (by decide) ?_
        refine x_iast E h 1 hf rfl dX9_decides_87 (fun S37 H locs hf h => ?_)
        refine lv_aload_n E.1 E.2.1 dX9_decides_88 rfl (lv_at hl 2 rfl) ?_
        refine x_getr E h 0 0 1 rfl rfl rfl (by decide) xinX9 kw1610 dX9_decides_89 ?_
        refine lv_bipush (v := 6) E.1 E.2.1 dX9_decides_92 (by decide) ?_
        refine lv_iconst (v := 0) E.1 E.2.1 dX9_decides_94 (by decide) ?_
        refine x_iast E h 1 hf rfl dX9_decides_95 (fun S39 H locs hf h => ?_)
        refine lv_aload_n E.1 E.2.1 dX9_decides_96 rfl (lv_at hl 2 rfl) ?_
        refine x_getr E h 0 0 1 rfl rfl rfl (by decide) xinX9 kw1610 dX9_decides_97 ?_
        refine lv_bipush (v := 7) E.1 E.2.1 dX9_decides_100 (by decide) ?_
        refine lv_iconst (v := 0) E.1 E.2.1 dX9_decides_102 (by decide) ?_
        refine x_iast E h 1 hf rfl dX9_decides_103 (fun S41 H locs hf h => ?_)
        refine lv_iload_n E.1 E.2.1 dX9_decides_104 rfl (lv_at hl 0 rfl) ?_
        exact x_zic E h (by decide) hf dX9_decides_105
set_option maxHeartbeats 4000000 in
set_option maxRecDepth 100000 in
theorem c_X9_votes (l : Launch) (D : va_G) (cy : Nat → ClassId) (s00 : State) (ad : Nat → Nat) (S : XS) (p0 p1 : Int32) (r9 : Int32) (S9 : XS) (hf : f_X9_votes S p0 p1 = some (r9, S9)) : XI l yX9_votes cX9_votes 3 (some .boolean) 4 D cy s00 shMod ad S [.ref (ad 0), .int p0, .int p1] r9 S9 := by
  refine XI.of (by decide) [(0, .ref (ad 0)), (1, .int p0), (2, .int p1)] rfl (Nat.le_of_ble_eq_true rfl) (fun p e s m args below meth c A ls E h hl => ?_)
  unfold f_X9_votes at hf
  refine lv_aload_n E.1 E.2.1 dX9_votes_0 rfl (lv_at hl 0 rfl) ?_
  refine x_getr E h 0 0 1 rfl rfl rfl (by decide) xinX9 kw1610 dX9_votes_1 ?_
  refine lv_bipush (v := 6) E.1 E.2.1 dX9_votes_4 (by decide) ?_
  refine lv_dup2_11 E.1 E.2.1 dX9_votes_6 rfl rfl ?_
  refine x_iald E h 1 hf rfl dX9_votes_7 (fun v1 hf => ?_)
  refine lv_iconst (v := 1) E.1 E.2.1 dX9_votes_8 (by decide) ?_
  refine lv_iload_n E.1 E.2.1 dX9_votes_9 rfl (lv_at hl 1 rfl) ?_
  refine lv_ishl E.1 E.2.1 dX9_votes_10 ?_
  refine lv_ior E.1 E.2.1 dX9_votes_11 ?_
  refine x_iast E h 1 hf rfl dX9_votes_12 (fun S2 H locs hf h => ?_)
  refine lv_aload_n E.1 E.2.1 dX9_votes_13 rfl (lv_at hl 0 rfl) ?_
  refine x_getr E h 0 0 1 rfl rfl rfl (by decide) xinX9 kw1610 dX9_votes_14 ?_
  refine lv_bipush (v := 7) E.1 E.2.1 dX9_votes_17 (by decide) ?_
  refine lv_dup2_11 E.1 E.2.1 dX9_votes_19 rfl rfl ?_
  refine x_iald E h 1 hf rfl dX9_votes_20 (fun v4 hf => ?_)
  refine lv_iload_n E.1 E.2.1 dX9_votes_21 rfl (lv_at hl 2 rfl) ?_
  refine x_br hf (lv_if_eq (tgt := 31) E.1 E.2.1 dX9_votes_22 (by decide)) (fun hf => ?_) (fun hf => ?_)
  · refine lv_iconst (v := 0) E.1 E.2.1 dX9_votes_31 (by decide) ?_
    refine lv_ior E.1 E.2.1 dX9_votes_32 ?_
    refine x_iast E h 1 hf rfl dX9_votes_33 (fun S5 H locs hf h => ?_)
    refine lv_aload_n E.1 E.2.1 dX9_votes_34 rfl (lv_at hl 0 rfl) ?_
    refine x_getr E h 0 0 1 rfl rfl rfl (by decide) xinX9 kw1610 dX9_votes_35 ?_
    refine lv_bipush (v := 6) E.1 E.2.1 dX9_votes_38 (by decide) ?_
    refine x_iald E h 1 hf rfl dX9_votes_40 (fun v7 hf => ?_)
    refine lv_iconst (v := 1) E.1 E.2.1 dX9_votes_41 (by decide) ?_
    refine lv_aload_n E.1 E.2.1 dX9_votes_42 rfl (lv_at hl 0 rfl) ?_
    refine x_getr E h 0 0 1 rfl rfl rfl (by decide) xinX9 kw1610 dX9_votes_43 ?_
    refine lv_iconst (v := 2) E.1 E.2.1 dX9_votes_46 (by decide) ?_
    refine x_iald E h 1 hf rfl dX9_votes_47 (fun v8 hf => ?_)
    refine lv_ishl E.1 E.2.1 dX9_votes_48 ?_
    refine lv_iconst (v := 1) E.1 E.2.1 dX9_votes_49 (by decide) ?_
    refine lv_isub E.1 E.2.1 dX9_votes_50 ?_
    refine x_brn hf (lv_icmp_ne (tgt := 65) E.1 E.2.1 dX9_votes_51 (by decide)) (fun hf => ?_) (fun hf => ?_)
    · refine lv_iconst (v := 0) E.1 E.2.1 dX9_votes_65 (by decide) ?_
      exact x_zic E h (by decide) hf dX9_votes_66
    · refine lv_aload_n E.1 E.2.1 dX9_votes_54 rfl (lv_at hl 0 rfl) ?_
      refine x_calli E h hl 0 hf (fun r0 Sq0 hr => c_X9_decides l D cy s00 _ S5  r0 Sq0 hr) m_X9_decides rfl rfl kw1570 rfl rfl (Nat.le_of_ble_eq_true rfl) ⟨by decide, by decide⟩ ⟨Nat.zero_le _, Nat.zero_le _⟩ dX9_votes_55 (fun v9 S10 H locs hf h => ?_)
      refine x_br hf (lv_if_eq (tgt := 65) E.1 E.2.1 dX9_votes_58 (by decide)) (fun hf => ?_) (fun hf => ?_)
      · refine lv_iconst (v := 0) E.1 E.2.1 dX9_votes_65 (by decide) ?_
        exact x_zic E h (by decide) hf dX9_votes_66
      · refine lv_iconst (v := 1) E.1 E.2.1 dX9_votes_61 (by decide) ?_
        refine lv_goto (tgt := 66) E.1 E.2.1 dX9_votes_62 (by decide) ?_
        exact x_zic E h (by decide) hf dX9_votes_66
  · refine lv_iconst (v := 1) E.1 E.2.1 dX9_votes_25 (by decide) ?_
    refine lv_iload_n E.1 E.2.1 dX9_votes_26 rfl (lv_at hl 1 rfl) ?_
    refine lv_ishl E.1 E.2.1 dX9_votes_27 ?_
    refine lv_goto (tgt := 32) E.1 E.2.1 dX9_votes_28 (by decide) ?_
    refine lv_ior E.1 E.2.1 dX9_votes_32 ?_
    refine x_iast E h 1 hf rfl dX9_votes_33 (fun S11 H locs hf h => ?_)
    refine lv_aload_n E.1 E.2.1 dX9_votes_34 rfl (lv_at hl 0 rfl) ?_
    refine x_getr E h 0 0 1 rfl rfl rfl (by decide) xinX9 kw1610 dX9_votes_35 ?_
    refine lv_bipush (v := 6) E.1 E.2.1 dX9_votes_38 (by decide) ?_
    refine x_iald E h 1 hf rfl dX9_votes_40 (fun v13 hf => ?_)
    refine lv_iconst (v := 1) E.1 E.2.1 dX9_votes_41 (by decide) ?_
    refine lv_aload_n E.1 E.2.1 dX9_votes_42 rfl (lv_at hl 0 rfl) ?_
    refine x_getr E h 0 0 1 rfl rfl rfl (by decide) xinX9 kw1610 dX9_votes_43 ?_
    refine lv_iconst (v := 2) E.1 E.2.1 dX9_votes_46 (by decide) ?_
    refine x_iald E h 1 hf rfl dX9_votes_47 (fun v14 hf => ?_)
    refine lv_ishl E.1 E.2.1 dX9_votes_48 ?_
    refine lv_iconst (v := 1) E.1 E.2.1 dX9_votes_49 (by decide) ?_
    refine lv_isub E.1 E.2.1 dX9_votes_50 ?_
    refine x_brn hf (lv_icmp_ne (tgt := 65) E.1 E.2.1 dX9_votes_51 (by decide)) (fun hf => ?_) (fun hf => ?_)
    · refine lv_iconst (v := 0) E.1 E.2.1 dX9_votes_65 (by decide) ?_
      exact x_zic E h (by decide) hf dX9_votes_66
    · refine lv_aload_n E.1 E.2.1 dX9_votes_54 rfl (lv_at hl 0 rfl) ?_
      refine x_calli E h hl 0 hf (fun r0 Sq0 hr => c_X9_decides l D cy s00 _ S11  r0 Sq0 hr) m_X9_decides rfl rfl kw1570 rfl rfl (Nat.le_of_ble_eq_true rfl) ⟨by decide, by decide⟩ ⟨Nat.zero_le _, Nat.zero_le _⟩ dX9_votes_55 (fun v15 S16 H locs hf h => ?_)
      refine x_br hf (lv_if_eq (tgt := 65) E.1 E.2.1 dX9_votes_58 (by decide)) (fun hf => ?_) (fun hf => ?_)
      · refine lv_iconst (v := 0) E.1 E.2.1 dX9_votes_65 (by decide) ?_
        exact x_zic E h (by decide) hf dX9_votes_66
      · refine lv_iconst (v := 1) E.1 E.2.1 dX9_votes_61 (by decide) ?_
        refine lv_goto (tgt := 66) E.1 E.2.1 dX9_votes_62 (by decide) ?_
        exact x_zic E h (by decide) hf dX9_votes_66
set_option maxHeartbeats 4000000 in
set_option maxRecDepth 100000 in
theorem c_X9_readsVote (l : Launch) (D : va_G) (cy : Nat → ClassId) (s00 : State) (ad : Nat → Nat) (S : XS) (p0 : Int32) (r9 : Int32) (S9 : XS) (hf : f_X9_readsVote S p0 = some (r9, S9)) : XI l yX9_readsVote cX9_readsVote 2 (some .boolean) 5 D cy s00 shMod ad S [.ref (ad 0), .int p0] r9 S9 := by
  refine XI.of (by decide) [(0, .ref (ad 0)), (1, .int p0)] rfl (Nat.le_of_ble_eq_true rfl) (fun p e s m args below meth c A ls E h hl => ?_)
  unfold f_X9_readsVote at hf
  refine lv_aload_n E.1 E.2.1 dX9_readsVote_0 rfl (lv_at hl 0 rfl) ?_
  refine lv_iconst (v := 0) E.1 E.2.1 dX9_readsVote_1 (by decide) ?_
  refine x_calli E h hl 0 hf (fun r0 Sq0 hr => c_X9_catAt l D cy s00 _ S 0 r0 Sq0 hr) m_X9_catAt rfl rfl kw1445 rfl rfl (Nat.le_of_ble_eq_true rfl) ⟨by decide, by decide⟩ ⟨Nat.zero_le _, Nat.zero_le _⟩ dX9_readsVote_2 (fun v1 S2 H locs hf h => ?_)
  refine x_br hf (lv_if_eq (tgt := 25) E.1 E.2.1 dX9_readsVote_5 (by decide)) (fun hf => ?_) (fun hf => ?_)
  · refine lv_iconst (v := 0) E.1 E.2.1 dX9_readsVote_25 (by decide) ?_
    exact x_zic E h (by decide) hf dX9_readsVote_26
  · refine lv_aload_n E.1 E.2.1 dX9_readsVote_8 rfl (lv_at hl 0 rfl) ?_
    refine lv_aload_n E.1 E.2.1 dX9_readsVote_9 rfl (lv_at hl 0 rfl) ?_
    refine lv_aload_n E.1 E.2.1 dX9_readsVote_10 rfl (lv_at hl 0 rfl) ?_
    refine x_getr E h 0 22 10 rfl rfl rfl (by decide) xinX9 kw1632 dX9_readsVote_11 ?_
    refine lv_iconst (v := 0) E.1 E.2.1 dX9_readsVote_14 (by decide) ?_
    refine x_iald E h 10 hf rfl dX9_readsVote_15 (fun v3 hf => ?_)
    refine x_callp E h hl 0 hf (fun r0 hr => c_X9_canVote l D cy s00 _ S2 v3 r0 hr) m_X9_canVote rfl rfl kw1562 rfl rfl (Nat.le_of_ble_eq_true rfl) ⟨by decide, by decide⟩ ⟨Nat.zero_le _, Nat.zero_le _⟩ dX9_readsVote_16 (fun v4 H locs hf h => ?_)
    refine x_calli E h hl 0 hf (fun r0 Sq0 hr => c_X9_stops l D cy s00 _ S2 v4 r0 Sq0 hr) m_X9_stops rfl rfl kw1389 rfl rfl (Nat.le_of_ble_eq_true rfl) ⟨by decide, by decide⟩ ⟨Nat.zero_le _, Nat.zero_le _⟩ dX9_readsVote_19 (fun v5 S6 H locs hf h => ?_)
    refine x_brn hf (lv_if_ne (tgt := 27) E.1 E.2.1 dX9_readsVote_22 (by decide)) (fun hf => ?_) (fun hf => ?_)
    · refine lv_aload_n E.1 E.2.1 dX9_readsVote_27 rfl (lv_at hl 0 rfl) ?_
      refine lv_aload_n E.1 E.2.1 dX9_readsVote_28 rfl (lv_at hl 0 rfl) ?_
      refine x_getr E h 0 22 10 rfl rfl rfl (by decide) xinX9 kw1632 dX9_readsVote_29 ?_
      refine lv_iconst (v := 0) E.1 E.2.1 dX9_readsVote_32 (by decide) ?_
      refine x_iald E h 10 hf rfl dX9_readsVote_33 (fun v7 hf => ?_)
      refine lv_iload_n E.1 E.2.1 dX9_readsVote_34 rfl (lv_at hl 1 rfl) ?_
      refine x_calli E h hl 0 hf (fun r0 Sq0 hr => c_X9_votes l D cy s00 _ S6 v7 p0 r0 Sq0 hr) m_X9_votes rfl rfl kw1566 rfl rfl (Nat.le_of_ble_eq_true rfl) ⟨by decide, by decide⟩ ⟨Nat.zero_le _, Nat.zero_le _⟩ dX9_readsVote_35 (fun v8 S9 H locs hf h => ?_)
      refine lv_pop E.1 E.2.1 dX9_readsVote_38 rfl ?_
      refine lv_iconst (v := 1) E.1 E.2.1 dX9_readsVote_39 (by decide) ?_
      exact x_zic E h (by decide) hf dX9_readsVote_40
    · refine lv_iconst (v := 0) E.1 E.2.1 dX9_readsVote_25 (by decide) ?_
      exact x_zic E h (by decide) hf dX9_readsVote_26
set_option maxHeartbeats 4000000 in
set_option maxRecDepth 100000 in
theorem c_X9_feeds (l : Launch) (D : va_G) (cy : Nat → ClassId) (s00 : State) (ad : Nat → Nat) (S : XS) (p0 p1 : Int32) (S9 : XS) (hf : f_X9_feeds S p0 p1 = some S9) : XV l yX9_feeds cX9_feeds 4 none 1 D cy s00 shMod ad S [.ref (ad 0), .int p0, .int p1] S9 := by
  refine XV.of (by decide) [(0, .ref (ad 0)), (1, .int p0), (2, .int p1)] rfl (Nat.le_of_ble_eq_true rfl) (fun p e s m args below meth c A ls E h hl => ?_)
  unfold f_X9_feeds at hf
  refine lv_iload_n E.1 E.2.1 dX9_feeds_0 rfl (lv_at hl 2 rfl) ?_
  refine lv_bipush (v := 99) E.1 E.2.1 dX9_feeds_1 (by decide) ?_
  refine lv_aload_n E.1 E.2.1 dX9_feeds_3 rfl (lv_at hl 0 rfl) ?_
  refine lv_iload_n E.1 E.2.1 dX9_feeds_4 rfl (lv_at hl 1 rfl) ?_
  refine lv_iconst (v := 2) E.1 E.2.1 dX9_feeds_5 (by decide) ?_
  refine x_callp E h hl 0 hf (fun r0 hr => c_X9_of l D cy s00 _ S p0 2 r0 hr) m_X9_of rfl rfl kw1429 rfl rfl (Nat.le_of_ble_eq_true rfl) ⟨by decide, by decide⟩ ⟨Nat.zero_le _, Nat.zero_le _⟩ dX9_feeds_6 (fun v1 H locs hf h => ?_)
  refine lv_isub E.1 E.2.1 dX9_feeds_9 ?_
  refine va_mmin E.1 E.2.1 (E.2.2.1.trans hl.1.symm) E.2.2.2.1 (E.2.2.2.2.1 _ kw1593) (E.2.2.2.2.1 _ kw418) (E.2.2.2.2.1 _ kw124) (E.2.2.2.2.1 _ kw419) (by decide) (Nat.le_of_ble_eq_true rfl) (Nat.zero_le _) (Nat.zero_le _) dX9_feeds_10 ?_
  refine x_nm hf (fun v2 hf => ?_)
  refine lv_istore_n (lv' := [(3, .int v2), (0, .ref (ad 0)), (1, .int p0), (2, .int p1)]) E.1 E.2.1 dX9_feeds_13 rfl hl (by decide) rfl (fun ls hl => ?_)
  refine lv_aload_n E.1 E.2.1 dX9_feeds_14 rfl (lv_at hl 1 rfl) ?_
  refine lv_iload_n E.1 E.2.1 dX9_feeds_15 rfl (lv_at hl 2 rfl) ?_
  refine lv_iconst (v := 2) E.1 E.2.1 dX9_feeds_16 (by decide) ?_
  refine lv_aload_n E.1 E.2.1 dX9_feeds_17 rfl (lv_at hl 1 rfl) ?_
  refine lv_iload_n E.1 E.2.1 dX9_feeds_18 rfl (lv_at hl 2 rfl) ?_
  refine lv_iconst (v := 2) E.1 E.2.1 dX9_feeds_19 (by decide) ?_
  refine x_callp E h hl 0 hf (fun r0 hr => c_X9_of l D cy s00 _ S p0 2 r0 hr) m_X9_of rfl rfl kw1429 rfl rfl (Nat.le_of_ble_eq_true rfl) ⟨by decide, by decide⟩ ⟨Nat.zero_le _, Nat.zero_le _⟩ dX9_feeds_20 (fun v3 H locs hf h => ?_)
  refine lv_iload_n E.1 E.2.1 dX9_feeds_23 rfl (lv_at hl 0 rfl) ?_
  refine lv_iadd E.1 E.2.1 dX9_feeds_24 ?_
  refine x_callv E h hl 0 hf (fun r0 hr => c_X9_to l D cy s00 _ S p0 2 (v3 + v2) r0 hr) m_X9_to rfl rfl kw1437 rfl rfl (Nat.le_of_ble_eq_true rfl) ⟨by decide, by decide⟩ ⟨Nat.zero_le _, Nat.zero_le _⟩ dX9_feeds_25 (fun S4 H locs hf h => ?_)
  refine lv_aload_n E.1 E.2.1 dX9_feeds_28 rfl (lv_at hl 1 rfl) ?_
  refine x_getr E h 0 0 1 rfl rfl rfl (by decide) xinX9 kw1610 dX9_feeds_29 ?_
  refine lv_bipush (v := 8) E.1 E.2.1 dX9_feeds_32 (by decide) ?_
  refine lv_dup2_11 E.1 E.2.1 dX9_feeds_34 rfl rfl ?_
  refine x_iald E h 1 hf rfl dX9_feeds_35 (fun v5 hf => ?_)
  refine lv_iload_n E.1 E.2.1 dX9_feeds_36 rfl (lv_at hl 0 rfl) ?_
  refine lv_iadd E.1 E.2.1 dX9_feeds_37 ?_
  refine x_iast E h 1 hf rfl dX9_feeds_38 (fun S6 H locs hf h => ?_)
  exact x_vret E h hf dX9_feeds_39
